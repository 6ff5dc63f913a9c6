section C6
set_option maxRecDepth 100000 in
set_option maxHeartbeats 1000000 in
theorem cV_part {l : Launch} {E : sk_V} {d : Nat} {h : sk_M} {K m x : Int32} {t n : Nat} (hV : voI h K m t n) (hp : ¬ m - nI t = 0) : sk_K l E (d + 0) MX6_part [.ref 4, .int x] h (fun r h1 => tcQ h h1 n [] 0 ∧ some (.int (x / (m - nI t))) = r) := by
  refine sk_K.of (by decide +kernel) (Nat.le_of_ble_eq_true rfl) ?_
  show sk_S l E (d + 0) _ 0 [some (.ref 4), some (.int x), none] [] h _
  refine sk_S.aload_n (i := 0) (dd DX6_part 0 rfl) rfl rfl ?_
  refine sk_S.geti (dd DX6_part 1 rfl) rfl fX6_25 se_4 (by decide) rfl ?_
  refine sk_S.V m hV.2.2.1 ?_
  refine sk_S.aload_n (i := 0) (dd DX6_part 2 rfl) rfl rfl ?_
  refine sk_S.geti (dd DX6_part 3 rfl) rfl fX6_26 se_4 (by decide) rfl ?_
  refine sk_S.V (nI t) hV.2.1 ?_
  refine sk_S.isub (dd DX6_part 4 rfl) ?_
  refine sk_S.istore_n (i := 2) (dd DX6_part 5 rfl) rfl (Nat.le_of_ble_eq_true rfl) rfl ?_
  refine sk_S.iload_n (i := 2) (dd DX6_part 6 rfl) rfl rfl ?_
  refine sk_S.if_ne (tgt := 21) (dd DX6_part 7 rfl) (by decide) (fun c11 => ?_) (fun c11 => absurd c11 hp)
  refine sk_S.iload_n (i := 1) (dd DX6_part 13 rfl) rfl rfl ?_
  refine sk_S.iload_n (i := 2) (dd DX6_part 14 rfl) rfl rfl ?_
  refine sk_S.idiv (dd DX6_part 15 rfl) hp ?_
  refine sk_S.iret (dd DX6_part 16 rfl) rfl rfl ?_
  refine ⟨?_, rfl⟩
  have e := tcQ.rf hV.2.2.2.2
  rw [hV.2.2.2.1] at e
  exact e
set_option maxRecDepth 100000 in
set_option maxHeartbeats 1000000 in
theorem cV_partP {l : Launch} {E : sk_V} {d : Nat} {h : sk_M} {K m x : Int32} {t n : Nat} (hV : voI h K m t n) (hp : m - nI t = 0) : sk_K l E (d + 0) MX6_part [.ref 4, .int x] h (fun r h1 => tcQ h h1 n [] 1 ∧ some (.int 0) = r) := by
  refine sk_K.of (by decide +kernel) (Nat.le_of_ble_eq_true rfl) ?_
  show sk_S l E (d + 0) _ 0 [some (.ref 4), some (.int x), none] [] h _
  refine sk_S.aload_n (i := 0) (dd DX6_part 0 rfl) rfl rfl ?_
  refine sk_S.geti (dd DX6_part 1 rfl) rfl fX6_25 se_4 (by decide) rfl ?_
  refine sk_S.V m hV.2.2.1 ?_
  refine sk_S.aload_n (i := 0) (dd DX6_part 2 rfl) rfl rfl ?_
  refine sk_S.geti (dd DX6_part 3 rfl) rfl fX6_26 se_4 (by decide) rfl ?_
  refine sk_S.V (nI t) hV.2.1 ?_
  refine sk_S.isub (dd DX6_part 4 rfl) ?_
  refine sk_S.istore_n (i := 2) (dd DX6_part 5 rfl) rfl (Nat.le_of_ble_eq_true rfl) rfl ?_
  refine sk_S.iload_n (i := 2) (dd DX6_part 6 rfl) rfl rfl ?_
  refine sk_S.if_ne (tgt := 21) (dd DX6_part 7 rfl) (by decide) (fun c11 => absurd hp c11) (fun c11 => ?_)
  refine sk_S.aload_n (i := 0) (dd DX6_part 8 rfl) rfl rfl ?_
  refine sk_S.iconst (v := 1) (dd DX6_part 9 rfl) (by decide) ?_
  refine sk_S.putf (dd DX6_part 10 rfl) rfl pX6_32 se_4 (by decide) rfl rfl rfl ?_
  refine sk_S.iconst (v := 0) (dd DX6_part 11 rfl) (by decide) ?_
  refine sk_S.iret (dd DX6_part 12 rfl) rfl rfl ?_
  exact ⟨tcQ.pt hV.2.2.2.2, rfl⟩
set_option maxRecDepth 100000 in
set_option maxHeartbeats 1000000 in
theorem cV_spP {l : Launch} {E : sk_V} {d : Nat} {h : sk_M} {a b x c : Int32} (hp : h 4 2 = 1) : sk_K l E (d + 0) MX6_speak [.ref 4, .int a, .int b, .int x, .int c] h (fun r h1 => h = h1 ∧ some (.int 0) = r) := by
  refine sk_K.of (by decide +kernel) (Nat.le_of_ble_eq_true rfl) ?_
  show sk_S l E (d + 0) _ 0 [some (.ref 4), some (.int a), some (.int b), some (.int x), some (.int c), none, none] [] h _
  refine sk_S.aload_n (i := 0) (dd DX6_speak 0 rfl) rfl rfl ?_
  refine sk_S.geti (dd DX6_speak 1 rfl) rfl fX6_32 se_4 (by decide) rfl ?_
  refine sk_S.if_eq (tgt := 9) (dd DX6_speak 2 rfl) (by decide) (fun c4 => absurd c4 (by rw [hp]; decide)) (fun c4 => ?_)
  refine sk_S.iconst (v := 0) (dd DX6_speak 3 rfl) (by decide) ?_
  refine sk_S.iret (dd DX6_speak 4 rfl) rfl rfl ?_
  exact ⟨rfl, rfl⟩
set_option maxRecDepth 100000 in
set_option maxHeartbeats 1000000 in
theorem cV_sy_0_0_0 {l : Launch} {E : sk_V} {d : Nat} {h : sk_M} {m x : Int32} {t n dep : Nat} (hn : n + 0 ≤ 30) (hd : dep + 0 ≤ 30) (hV : voI h 0 m t n) : sk_K l E (d + 1) MX6_say [.ref 4, .int 10, .int (-1), .int x, .int (nI dep)] h (fun r h1 => tcQ h h1 n [] 0 ∧ some (.int (x + nI t)) = r) := by
  refine sk_K.of (by decide +kernel) (Nat.le_of_ble_eq_true rfl) ?_
  show sk_S l E (d + 1) _ 0 [some (.ref 4), some (.int 10), some (.int (-1)), some (.int x), some (.int (nI dep))] [] h _
  refine sk_S.iload_n (i := 1) (dd DX6_say_p1 0 rfl) rfl rfl ?_
  · refine sk_S.lookup (off := 107) (dd DX6_say_p1 1 rfl) (by decide) (by decide) (tgt := 108) (by decide) ?_
    refine sk_S.iload_n (i := 3) (dd DX6_say_p1 2 rfl) rfl rfl ?_
    refine sk_S.aload_n (i := 0) (dd DX6_say_p1 3 rfl) rfl rfl ?_
    refine sk_S.geti (dd DX6_say_p1 4 rfl) rfl fX6_26 se_4 (by decide) rfl ?_
    refine sk_S.V (nI t) hV.2.1 ?_
    refine sk_S.iadd (dd DX6_say_p1 5 rfl) ?_
    refine sk_S.iret (dd DX6_say_p1 6 rfl) rfl rfl ?_
    have e := tcQ.rf hV.2.2.2.2
    rw [hV.2.2.2.1] at e
    exact ⟨e, rfl⟩
set_option maxRecDepth 100000 in
set_option maxHeartbeats 1000000 in
theorem cV_sp_0_0_0 {l : Launch} {E : sk_V} {d : Nat} {h : sk_M} {m x : Int32} {t n dep : Nat} (hn : n + 1 ≤ 30) (hd : dep + 1 ≤ 30) (hV : voI h 0 m t n) : sk_K l E (d + 2) MX6_speak [.ref 4, .int 0, .int 0, .int x, .int (nI dep)] h (fun r h1 => tcQ h h1 n [10] 0 ∧ some (.int (x + nI t)) = r) := by
  refine sk_K.of (by decide +kernel) (Nat.le_of_ble_eq_true rfl) ?_
  show sk_S l E (d + 2) _ 0 [some (.ref 4), some (.int 0), some (.int 0), some (.int x), some (.int (nI dep)), none, none] [] h _
  refine sk_S.aload_n (i := 0) (dd DX6_speak 0 rfl) rfl rfl ?_
  refine sk_S.geti (dd DX6_speak 1 rfl) rfl fX6_32 se_4 (by decide) rfl ?_
  refine sk_S.if_eq (tgt := 9) (dd DX6_speak 2 rfl) (by decide) (fun c4 => ?_) (fun c4 => absurd hV.2.2.2.1 c4)
  refine sk_S.iload_n (i := 1) (dd DX6_speak 5 rfl) rfl rfl ?_
  refine sk_S.istore (i := 5) (dd DX6_speak 6 rfl) (Nat.le_of_ble_eq_true rfl) rfl ?_
  refine sk_S.iconst (v := 0) (dd DX6_speak 7 rfl) (by decide) ?_
  refine sk_S.istore (i := 6) (dd DX6_speak 8 rfl) (Nat.le_of_ble_eq_true rfl) rfl ?_
  refine sk_S.iload (i := 6) (dd DX6_speak 9 rfl) rfl ?_
  refine sk_S.bipush (v := 7) (dd DX6_speak 10 rfl) (by decide) ?_
  refine sk_S.icmp_ge (tgt := 54) (dd DX6_speak 11 rfl) (by decide) (fun c19 => absurd c19 (by decide)) (fun c19 => ?_)
  refine sk_S.iload (i := 5) (dd DX6_speak 12 rfl) rfl ?_
  refine sk_S.if_le (tgt := 54) (dd DX6_speak 13 rfl) (by decide) (fun c24 => ?_) (fun c24 => absurd (by decide) c24)
  refine sk_S.iload (i := 5) (dd DX6_speak 28 rfl) rfl ?_
  refine sk_S.if_lt (tgt := 66) (dd DX6_speak 29 rfl) (by decide) (fun c56 => absurd c56 (by decide)) (fun c56 => ?_)
  refine sk_S.iload (i := 4) (dd DX6_speak 30 rfl) rfl ?_
  refine sk_S.bipush (v := 30) (dd DX6_speak 31 rfl) (by decide) ?_
  refine sk_S.icmp_le (tgt := 68) (dd DX6_speak 32 rfl) (by decide) (fun c63 => ?_) (fun c63 => absurd (nI_le (b := 30) (by omega) (by decide)) c63)
  refine sk_S.gets (dd DX6_speak 35 rfl) rfl gsX6_40 ?_
  refine sk_S.iload (i := 5) (dd DX6_speak 36 rfl) rfl ?_
  refine sk_S.iconst (v := 4) (dd DX6_speak 37 rfl) (by decide) ?_
  refine sk_S.imul (dd DX6_speak 38 rfl) ?_
  refine sk_S.iload_n (i := 2) (dd DX6_speak 39 rfl) rfl rfl ?_
  refine sk_S.iadd (dd DX6_speak 40 rfl) ?_
  refine sk_S.roald (dd DX6_speak 41 rfl) rfl (j := 0) ⟨by decide, by decide, by decide⟩ rfl ?_
  refine sk_S.istore (i := 6) (dd DX6_speak 42 rfl) (Nat.le_of_ble_eq_true rfl) rfl ?_
  refine sk_S.aload_n (i := 0) (dd DX6_speak 43 rfl) rfl rfl ?_
  refine sk_S.geti (dd DX6_speak 44 rfl) rfl fX6_29 se_4 (by decide) rfl ?_
  refine sk_S.bipush (v := 30) (dd DX6_speak 45 rfl) (by decide) ?_
  refine sk_S.icmp_ge (tgt := 110) (dd DX6_speak 46 rfl) (by decide) (fun c86 => absurd c86 (by rw [hV.2.2.2.2]; exact nI_ge (b := 30) (by omega) (by decide))) (fun c86 => ?_)
  refine sk_S.aload_n (i := 0) (dd DX6_speak 47 rfl) rfl rfl ?_
  refine sk_S.getr (dd DX6_speak 48 rfl) rfl fX6_9 se_4 (by decide) rfl ?_
  refine sk_S.aload_n (i := 0) (dd DX6_speak 49 rfl) rfl rfl ?_
  refine sk_S.geti (dd DX6_speak 50 rfl) rfl fX6_29 se_4 (by decide) rfl ?_
  refine sk_S.iload (i := 6) (dd DX6_speak 51 rfl) rfl ?_
  refine sk_S.iast (dd DX6_speak 52 rfl) se_17 (sk_ix_nI (k := n) hV.2.2.2.2 (by omega) (by decide)) ?_
  refine sk_S.aload_n (i := 0) (dd DX6_speak 53 rfl) rfl rfl ?_
  refine sk_S.dup (dd DX6_speak 54 rfl) rfl ?_
  refine sk_S.geti (dd DX6_speak 55 rfl) rfl fX6_29 se_4 (by decide) rfl ?_
  refine sk_S.iconst (v := 1) (dd DX6_speak 56 rfl) (by decide) ?_
  refine sk_S.iadd (dd DX6_speak 57 rfl) ?_
  refine sk_S.putf (dd DX6_speak 58 rfl) rfl pX6_29 se_4 (by decide) rfl rfl rfl ?_
  have xp := pshC (b := 10) hV.2.2.2.2 hV.2.2.2.1
  have hV2 := hV.up xp
  refine sk_S.aload_n (i := 0) (dd DX6_speak 59 rfl) rfl rfl ?_
  refine sk_S.iload (i := 6) (dd DX6_speak 60 rfl) rfl ?_
  refine sk_S.gets (dd DX6_speak 61 rfl) rfl gsX6_43 ?_
  refine sk_S.iload (i := 5) (dd DX6_speak 62 rfl) rfl ?_
  refine sk_S.roald (dd DX6_speak 63 rfl) rfl (j := 0) ⟨by decide, by decide, by decide⟩ rfl ?_
  refine sk_S.iload_n (i := 3) (dd DX6_speak 64 rfl) rfl rfl ?_
  refine sk_S.iload (i := 4) (dd DX6_speak 65 rfl) rfl ?_
  refine sk_S.iconst (v := 1) (dd DX6_speak 66 rfl) (by decide) ?_
  refine sk_S.iadd (dd DX6_speak 67 rfl) ?_
  refine sk_S.V (nI (dep + 1)) (nI_1 dep) ?_
  refine sk_S.callV (dd DX6_speak 68 rfl) rfl kX6_46 (cV_sy_0_0_0 (by simp only [List.length_cons, List.length_nil]; omega) (by omega) hV2) se_4 (by decide) rfl rfl rfl rfl (Nat.le_of_ble_eq_true rfl) (fun r124 h124 q124 => ?_)
  obtain ⟨x124, rfl⟩ := q124
  show sk_S _ _ _ _ _ _ (.int _ :: _) _ _
  refine sk_S.iret (dd DX6_speak 69 rfl) rfl rfl ?_
  exact ⟨xp.tr x124, rfl⟩
set_option maxRecDepth 100000 in
set_option maxHeartbeats 1000000 in
theorem cV_sy_0_0_1 {l : Launch} {E : sk_V} {d : Nat} {h : sk_M} {m x : Int32} {t n dep : Nat} (hn : n + 1 ≤ 30) (hd : dep + 1 ≤ 30) (hV : voI h 0 m t n) : sk_K l E (d + 4) MX6_say [.ref 4, .int 11, .int (-1), .int x, .int (nI dep)] h (fun r h1 => tcQ h h1 n [10] 0 ∧ some (.int ((x + nI t) * 2)) = r) := by
  refine sk_K.of (by decide +kernel) (Nat.le_of_ble_eq_true rfl) ?_
  show sk_S l E (d + 4) _ 0 [some (.ref 4), some (.int 11), some (.int (-1)), some (.int x), some (.int (nI dep))] [] h _
  refine sk_S.iload_n (i := 1) (dd DX6_say_p1 0 rfl) rfl rfl ?_
  · refine sk_S.lookup (off := 114) (dd DX6_say_p1 1 rfl) (by decide) (by decide) (tgt := 115) (by decide) ?_
    refine sk_S.aload_n (i := 0) (dd DX6_say_p1 7 rfl) rfl rfl ?_
    refine sk_S.aload_n (i := 0) (dd DX6_say_p1 8 rfl) rfl rfl ?_
    refine sk_S.geti (dd DX6_say_p1 9 rfl) rfl fX6_21 se_4 (by decide) rfl ?_
    refine sk_S.V 0 hV.1 ?_
    refine sk_S.iconst (v := 0) (dd DX6_say_p1 10 rfl) (by decide) ?_
    refine sk_S.iload_n (i := 3) (dd DX6_say_p1 11 rfl) rfl rfl ?_
    refine sk_S.iload (i := 4) (dd DX6_say_p1 12 rfl) rfl ?_
    refine sk_S.callV (dd DX6_say_p1 13 rfl) rfl kX6_36 (cV_sp_0_0_0 (x := x) (by omega) (by omega) hV) se_4 (by decide) rfl rfl rfl rfl (Nat.le_of_ble_eq_true rfl) (fun r124 h124 q124 => ?_)
    obtain ⟨x124, rfl⟩ := q124
    show sk_S _ _ _ _ _ _ (.int _ :: _) _ _
    refine sk_S.iconst (v := 2) (dd DX6_say_p1 14 rfl) (by decide) ?_
    refine sk_S.imul (dd DX6_say_p1 15 rfl) ?_
    refine sk_S.iret (dd DX6_say_p1 16 rfl) rfl rfl ?_
    exact ⟨x124, rfl⟩
set_option maxRecDepth 100000 in
set_option maxHeartbeats 1000000 in
theorem cV_sp_0_0_1 {l : Launch} {E : sk_V} {d : Nat} {h : sk_M} {m x : Int32} {t n dep : Nat} (hn : n + 2 ≤ 30) (hd : dep + 2 ≤ 30) (hV : voI h 0 m t n) : sk_K l E (d + 5) MX6_speak [.ref 4, .int 0, .int 1, .int x, .int (nI dep)] h (fun r h1 => tcQ h h1 n [11, 10] 0 ∧ some (.int ((x + nI t) * 2)) = r) := by
  refine sk_K.of (by decide +kernel) (Nat.le_of_ble_eq_true rfl) ?_
  show sk_S l E (d + 5) _ 0 [some (.ref 4), some (.int 0), some (.int 1), some (.int x), some (.int (nI dep)), none, none] [] h _
  refine sk_S.aload_n (i := 0) (dd DX6_speak 0 rfl) rfl rfl ?_
  refine sk_S.geti (dd DX6_speak 1 rfl) rfl fX6_32 se_4 (by decide) rfl ?_
  refine sk_S.if_eq (tgt := 9) (dd DX6_speak 2 rfl) (by decide) (fun c4 => ?_) (fun c4 => absurd hV.2.2.2.1 c4)
  refine sk_S.iload_n (i := 1) (dd DX6_speak 5 rfl) rfl rfl ?_
  refine sk_S.istore (i := 5) (dd DX6_speak 6 rfl) (Nat.le_of_ble_eq_true rfl) rfl ?_
  refine sk_S.iconst (v := 0) (dd DX6_speak 7 rfl) (by decide) ?_
  refine sk_S.istore (i := 6) (dd DX6_speak 8 rfl) (Nat.le_of_ble_eq_true rfl) rfl ?_
  refine sk_S.iload (i := 6) (dd DX6_speak 9 rfl) rfl ?_
  refine sk_S.bipush (v := 7) (dd DX6_speak 10 rfl) (by decide) ?_
  refine sk_S.icmp_ge (tgt := 54) (dd DX6_speak 11 rfl) (by decide) (fun c19 => absurd c19 (by decide)) (fun c19 => ?_)
  refine sk_S.iload (i := 5) (dd DX6_speak 12 rfl) rfl ?_
  refine sk_S.if_le (tgt := 54) (dd DX6_speak 13 rfl) (by decide) (fun c24 => ?_) (fun c24 => absurd (by decide) c24)
  refine sk_S.iload (i := 5) (dd DX6_speak 28 rfl) rfl ?_
  refine sk_S.if_lt (tgt := 66) (dd DX6_speak 29 rfl) (by decide) (fun c56 => absurd c56 (by decide)) (fun c56 => ?_)
  refine sk_S.iload (i := 4) (dd DX6_speak 30 rfl) rfl ?_
  refine sk_S.bipush (v := 30) (dd DX6_speak 31 rfl) (by decide) ?_
  refine sk_S.icmp_le (tgt := 68) (dd DX6_speak 32 rfl) (by decide) (fun c63 => ?_) (fun c63 => absurd (nI_le (b := 30) (by omega) (by decide)) c63)
  refine sk_S.gets (dd DX6_speak 35 rfl) rfl gsX6_40 ?_
  refine sk_S.iload (i := 5) (dd DX6_speak 36 rfl) rfl ?_
  refine sk_S.iconst (v := 4) (dd DX6_speak 37 rfl) (by decide) ?_
  refine sk_S.imul (dd DX6_speak 38 rfl) ?_
  refine sk_S.iload_n (i := 2) (dd DX6_speak 39 rfl) rfl rfl ?_
  refine sk_S.iadd (dd DX6_speak 40 rfl) ?_
  refine sk_S.roald (dd DX6_speak 41 rfl) rfl (j := 1) ⟨by decide, by decide, by decide⟩ rfl ?_
  refine sk_S.istore (i := 6) (dd DX6_speak 42 rfl) (Nat.le_of_ble_eq_true rfl) rfl ?_
  refine sk_S.aload_n (i := 0) (dd DX6_speak 43 rfl) rfl rfl ?_
  refine sk_S.geti (dd DX6_speak 44 rfl) rfl fX6_29 se_4 (by decide) rfl ?_
  refine sk_S.bipush (v := 30) (dd DX6_speak 45 rfl) (by decide) ?_
  refine sk_S.icmp_ge (tgt := 110) (dd DX6_speak 46 rfl) (by decide) (fun c86 => absurd c86 (by rw [hV.2.2.2.2]; exact nI_ge (b := 30) (by omega) (by decide))) (fun c86 => ?_)
  refine sk_S.aload_n (i := 0) (dd DX6_speak 47 rfl) rfl rfl ?_
  refine sk_S.getr (dd DX6_speak 48 rfl) rfl fX6_9 se_4 (by decide) rfl ?_
  refine sk_S.aload_n (i := 0) (dd DX6_speak 49 rfl) rfl rfl ?_
  refine sk_S.geti (dd DX6_speak 50 rfl) rfl fX6_29 se_4 (by decide) rfl ?_
  refine sk_S.iload (i := 6) (dd DX6_speak 51 rfl) rfl ?_
  refine sk_S.iast (dd DX6_speak 52 rfl) se_17 (sk_ix_nI (k := n) hV.2.2.2.2 (by omega) (by decide)) ?_
  refine sk_S.aload_n (i := 0) (dd DX6_speak 53 rfl) rfl rfl ?_
  refine sk_S.dup (dd DX6_speak 54 rfl) rfl ?_
  refine sk_S.geti (dd DX6_speak 55 rfl) rfl fX6_29 se_4 (by decide) rfl ?_
  refine sk_S.iconst (v := 1) (dd DX6_speak 56 rfl) (by decide) ?_
  refine sk_S.iadd (dd DX6_speak 57 rfl) ?_
  refine sk_S.putf (dd DX6_speak 58 rfl) rfl pX6_29 se_4 (by decide) rfl rfl rfl ?_
  have xp := pshC (b := 11) hV.2.2.2.2 hV.2.2.2.1
  have hV2 := hV.up xp
  refine sk_S.aload_n (i := 0) (dd DX6_speak 59 rfl) rfl rfl ?_
  refine sk_S.iload (i := 6) (dd DX6_speak 60 rfl) rfl ?_
  refine sk_S.gets (dd DX6_speak 61 rfl) rfl gsX6_43 ?_
  refine sk_S.iload (i := 5) (dd DX6_speak 62 rfl) rfl ?_
  refine sk_S.roald (dd DX6_speak 63 rfl) rfl (j := 0) ⟨by decide, by decide, by decide⟩ rfl ?_
  refine sk_S.iload_n (i := 3) (dd DX6_speak 64 rfl) rfl rfl ?_
  refine sk_S.iload (i := 4) (dd DX6_speak 65 rfl) rfl ?_
  refine sk_S.iconst (v := 1) (dd DX6_speak 66 rfl) (by decide) ?_
  refine sk_S.iadd (dd DX6_speak 67 rfl) ?_
  refine sk_S.V (nI (dep + 1)) (nI_1 dep) ?_
  refine sk_S.callV (dd DX6_speak 68 rfl) rfl kX6_46 (cV_sy_0_0_1 (by simp only [List.length_cons, List.length_nil]; omega) (by omega) hV2) se_4 (by decide) rfl rfl rfl rfl (Nat.le_of_ble_eq_true rfl) (fun r124 h124 q124 => ?_)
  obtain ⟨x124, rfl⟩ := q124
  show sk_S _ _ _ _ _ _ (.int _ :: _) _ _
  refine sk_S.iret (dd DX6_speak 69 rfl) rfl rfl ?_
  exact ⟨xp.tr x124, rfl⟩
set_option maxRecDepth 100000 in
set_option maxHeartbeats 1000000 in
theorem cV_sy_0_0_2 {l : Launch} {E : sk_V} {d : Nat} {h : sk_M} {m x : Int32} {t n dep : Nat} (hn : n + 2 ≤ 30) (hd : dep + 2 ≤ 30) (hV : voI h 0 m t n) : sk_K l E (d + 7) MX6_say [.ref 4, .int 12, .int (-1), .int x, .int (nI dep)] h (fun r h1 => tcQ h h1 n [11, 10] 0 ∧ some (.int (((x + nI t) * 2) - m)) = r) := by
  refine sk_K.of (by decide +kernel) (Nat.le_of_ble_eq_true rfl) ?_
  show sk_S l E (d + 7) _ 0 [some (.ref 4), some (.int 12), some (.int (-1)), some (.int x), some (.int (nI dep))] [] h _
  refine sk_S.iload_n (i := 1) (dd DX6_say_p1 0 rfl) rfl rfl ?_
  · refine sk_S.lookup (off := 129) (dd DX6_say_p1 1 rfl) (by decide) (by decide) (tgt := 130) (by decide) ?_
    refine sk_S.aload_n (i := 0) (dd DX6_say_p1 17 rfl) rfl rfl ?_
    refine sk_S.aload_n (i := 0) (dd DX6_say_p1 18 rfl) rfl rfl ?_
    refine sk_S.geti (dd DX6_say_p1 19 rfl) rfl fX6_21 se_4 (by decide) rfl ?_
    refine sk_S.V 0 hV.1 ?_
    refine sk_S.iconst (v := 1) (dd DX6_say_p1 20 rfl) (by decide) ?_
    refine sk_S.iload_n (i := 3) (dd DX6_say_p1 21 rfl) rfl rfl ?_
    refine sk_S.iload (i := 4) (dd DX6_say_p1 22 rfl) rfl ?_
    refine sk_S.callV (dd DX6_say_p1 23 rfl) rfl kX6_36 (cV_sp_0_0_1 (x := x) (by omega) (by omega) hV) se_4 (by decide) rfl rfl rfl rfl (Nat.le_of_ble_eq_true rfl) (fun r139 h139 q139 => ?_)
    obtain ⟨x139, rfl⟩ := q139
    show sk_S _ _ _ _ _ _ (.int _ :: _) _ _
    refine sk_S.aload_n (i := 0) (dd DX6_say_p1 24 rfl) rfl rfl ?_
    refine sk_S.geti (dd DX6_say_p1 25 rfl) rfl fX6_25 se_4 (by decide) rfl ?_
    refine sk_S.V m ((x139.2.2.2.1 5 (by decide) (by decide)).trans hV.2.2.1) ?_
    refine sk_S.isub (dd DX6_say_p1 26 rfl) ?_
    refine sk_S.iret (dd DX6_say_p1 27 rfl) rfl rfl ?_
    exact ⟨x139, rfl⟩
set_option maxRecDepth 100000 in
set_option maxHeartbeats 1000000 in
theorem cV_sp_0_0_2 {l : Launch} {E : sk_V} {d : Nat} {h : sk_M} {m x : Int32} {t n dep : Nat} (hn : n + 3 ≤ 30) (hd : dep + 3 ≤ 30) (hV : voI h 0 m t n) : sk_K l E (d + 8) MX6_speak [.ref 4, .int 0, .int 2, .int x, .int (nI dep)] h (fun r h1 => tcQ h h1 n [12, 11, 10] 0 ∧ some (.int (((x + nI t) * 2) - m)) = r) := by
  refine sk_K.of (by decide +kernel) (Nat.le_of_ble_eq_true rfl) ?_
  show sk_S l E (d + 8) _ 0 [some (.ref 4), some (.int 0), some (.int 2), some (.int x), some (.int (nI dep)), none, none] [] h _
  refine sk_S.aload_n (i := 0) (dd DX6_speak 0 rfl) rfl rfl ?_
  refine sk_S.geti (dd DX6_speak 1 rfl) rfl fX6_32 se_4 (by decide) rfl ?_
  refine sk_S.if_eq (tgt := 9) (dd DX6_speak 2 rfl) (by decide) (fun c4 => ?_) (fun c4 => absurd hV.2.2.2.1 c4)
  refine sk_S.iload_n (i := 1) (dd DX6_speak 5 rfl) rfl rfl ?_
  refine sk_S.istore (i := 5) (dd DX6_speak 6 rfl) (Nat.le_of_ble_eq_true rfl) rfl ?_
  refine sk_S.iconst (v := 0) (dd DX6_speak 7 rfl) (by decide) ?_
  refine sk_S.istore (i := 6) (dd DX6_speak 8 rfl) (Nat.le_of_ble_eq_true rfl) rfl ?_
  refine sk_S.iload (i := 6) (dd DX6_speak 9 rfl) rfl ?_
  refine sk_S.bipush (v := 7) (dd DX6_speak 10 rfl) (by decide) ?_
  refine sk_S.icmp_ge (tgt := 54) (dd DX6_speak 11 rfl) (by decide) (fun c19 => absurd c19 (by decide)) (fun c19 => ?_)
  refine sk_S.iload (i := 5) (dd DX6_speak 12 rfl) rfl ?_
  refine sk_S.if_le (tgt := 54) (dd DX6_speak 13 rfl) (by decide) (fun c24 => ?_) (fun c24 => absurd (by decide) c24)
  refine sk_S.iload (i := 5) (dd DX6_speak 28 rfl) rfl ?_
  refine sk_S.if_lt (tgt := 66) (dd DX6_speak 29 rfl) (by decide) (fun c56 => absurd c56 (by decide)) (fun c56 => ?_)
  refine sk_S.iload (i := 4) (dd DX6_speak 30 rfl) rfl ?_
  refine sk_S.bipush (v := 30) (dd DX6_speak 31 rfl) (by decide) ?_
  refine sk_S.icmp_le (tgt := 68) (dd DX6_speak 32 rfl) (by decide) (fun c63 => ?_) (fun c63 => absurd (nI_le (b := 30) (by omega) (by decide)) c63)
  refine sk_S.gets (dd DX6_speak 35 rfl) rfl gsX6_40 ?_
  refine sk_S.iload (i := 5) (dd DX6_speak 36 rfl) rfl ?_
  refine sk_S.iconst (v := 4) (dd DX6_speak 37 rfl) (by decide) ?_
  refine sk_S.imul (dd DX6_speak 38 rfl) ?_
  refine sk_S.iload_n (i := 2) (dd DX6_speak 39 rfl) rfl rfl ?_
  refine sk_S.iadd (dd DX6_speak 40 rfl) ?_
  refine sk_S.roald (dd DX6_speak 41 rfl) rfl (j := 2) ⟨by decide, by decide, by decide⟩ rfl ?_
  refine sk_S.istore (i := 6) (dd DX6_speak 42 rfl) (Nat.le_of_ble_eq_true rfl) rfl ?_
  refine sk_S.aload_n (i := 0) (dd DX6_speak 43 rfl) rfl rfl ?_
  refine sk_S.geti (dd DX6_speak 44 rfl) rfl fX6_29 se_4 (by decide) rfl ?_
  refine sk_S.bipush (v := 30) (dd DX6_speak 45 rfl) (by decide) ?_
  refine sk_S.icmp_ge (tgt := 110) (dd DX6_speak 46 rfl) (by decide) (fun c86 => absurd c86 (by rw [hV.2.2.2.2]; exact nI_ge (b := 30) (by omega) (by decide))) (fun c86 => ?_)
  refine sk_S.aload_n (i := 0) (dd DX6_speak 47 rfl) rfl rfl ?_
  refine sk_S.getr (dd DX6_speak 48 rfl) rfl fX6_9 se_4 (by decide) rfl ?_
  refine sk_S.aload_n (i := 0) (dd DX6_speak 49 rfl) rfl rfl ?_
  refine sk_S.geti (dd DX6_speak 50 rfl) rfl fX6_29 se_4 (by decide) rfl ?_
  refine sk_S.iload (i := 6) (dd DX6_speak 51 rfl) rfl ?_
  refine sk_S.iast (dd DX6_speak 52 rfl) se_17 (sk_ix_nI (k := n) hV.2.2.2.2 (by omega) (by decide)) ?_
  refine sk_S.aload_n (i := 0) (dd DX6_speak 53 rfl) rfl rfl ?_
  refine sk_S.dup (dd DX6_speak 54 rfl) rfl ?_
  refine sk_S.geti (dd DX6_speak 55 rfl) rfl fX6_29 se_4 (by decide) rfl ?_
  refine sk_S.iconst (v := 1) (dd DX6_speak 56 rfl) (by decide) ?_
  refine sk_S.iadd (dd DX6_speak 57 rfl) ?_
  refine sk_S.putf (dd DX6_speak 58 rfl) rfl pX6_29 se_4 (by decide) rfl rfl rfl ?_
  have xp := pshC (b := 12) hV.2.2.2.2 hV.2.2.2.1
  have hV2 := hV.up xp
  refine sk_S.aload_n (i := 0) (dd DX6_speak 59 rfl) rfl rfl ?_
  refine sk_S.iload (i := 6) (dd DX6_speak 60 rfl) rfl ?_
  refine sk_S.gets (dd DX6_speak 61 rfl) rfl gsX6_43 ?_
  refine sk_S.iload (i := 5) (dd DX6_speak 62 rfl) rfl ?_
  refine sk_S.roald (dd DX6_speak 63 rfl) rfl (j := 0) ⟨by decide, by decide, by decide⟩ rfl ?_
  refine sk_S.iload_n (i := 3) (dd DX6_speak 64 rfl) rfl rfl ?_
  refine sk_S.iload (i := 4) (dd DX6_speak 65 rfl) rfl ?_
  refine sk_S.iconst (v := 1) (dd DX6_speak 66 rfl) (by decide) ?_
  refine sk_S.iadd (dd DX6_speak 67 rfl) ?_
  refine sk_S.V (nI (dep + 1)) (nI_1 dep) ?_
  refine sk_S.callV (dd DX6_speak 68 rfl) rfl kX6_46 (cV_sy_0_0_2 (by simp only [List.length_cons, List.length_nil]; omega) (by omega) hV2) se_4 (by decide) rfl rfl rfl rfl (Nat.le_of_ble_eq_true rfl) (fun r124 h124 q124 => ?_)
  obtain ⟨x124, rfl⟩ := q124
  show sk_S _ _ _ _ _ _ (.int _ :: _) _ _
  refine sk_S.iret (dd DX6_speak 69 rfl) rfl rfl ?_
  exact ⟨xp.tr x124, rfl⟩
set_option maxRecDepth 100000 in
set_option maxHeartbeats 1000000 in
theorem cV_sy_0_0_3 {l : Launch} {E : sk_V} {d : Nat} {h : sk_M} {m x : Int32} {t n dep : Nat} (hn : n + 0 ≤ 30) (hd : dep + 0 ≤ 30) (hV : voI h 0 m t n) (hp : ¬ m - nI t = 0) : sk_K l E (d + 2) MX6_say [.ref 4, .int 13, .int (-1), .int x, .int (nI dep)] h (fun r h1 => tcQ h h1 n [] 0 ∧ some (.int (x / (m - nI t))) = r) := by
  refine sk_K.of (by decide +kernel) (Nat.le_of_ble_eq_true rfl) ?_
  show sk_S l E (d + 2) _ 0 [some (.ref 4), some (.int 13), some (.int (-1)), some (.int x), some (.int (nI dep))] [] h _
  refine sk_S.iload_n (i := 1) (dd DX6_say_p1 0 rfl) rfl rfl ?_
  · refine sk_S.lookup (off := 147) (dd DX6_say_p1 1 rfl) (by decide) (by decide) (tgt := 148) (by decide) ?_
    refine sk_S.aload_n (i := 0) (dd DX6_say_p1 28 rfl) rfl rfl ?_
    refine sk_S.iload_n (i := 3) (dd DX6_say_p1 29 rfl) rfl rfl ?_
    refine sk_S.callV (dd DX6_say_p1 30 rfl) rfl kX6_49 (cV_part hV hp) se_4 (by decide) rfl rfl rfl rfl (Nat.le_of_ble_eq_true rfl) (fun r150 h150 q150 => ?_)
    obtain ⟨x150, rfl⟩ := q150
    show sk_S _ _ _ _ _ _ (.int _ :: _) _ _
    refine sk_S.iret (dd DX6_say_p1 31 rfl) rfl rfl ?_
    exact ⟨x150, rfl⟩
set_option maxRecDepth 100000 in
set_option maxHeartbeats 1000000 in
theorem cV_sp_0_0_3 {l : Launch} {E : sk_V} {d : Nat} {h : sk_M} {m x : Int32} {t n dep : Nat} (hn : n + 1 ≤ 30) (hd : dep + 1 ≤ 30) (hV : voI h 0 m t n) (hp : ¬ m - nI t = 0) : sk_K l E (d + 3) MX6_speak [.ref 4, .int 0, .int 3, .int x, .int (nI dep)] h (fun r h1 => tcQ h h1 n [13] 0 ∧ some (.int (x / (m - nI t))) = r) := by
  refine sk_K.of (by decide +kernel) (Nat.le_of_ble_eq_true rfl) ?_
  show sk_S l E (d + 3) _ 0 [some (.ref 4), some (.int 0), some (.int 3), some (.int x), some (.int (nI dep)), none, none] [] h _
  refine sk_S.aload_n (i := 0) (dd DX6_speak 0 rfl) rfl rfl ?_
  refine sk_S.geti (dd DX6_speak 1 rfl) rfl fX6_32 se_4 (by decide) rfl ?_
  refine sk_S.if_eq (tgt := 9) (dd DX6_speak 2 rfl) (by decide) (fun c4 => ?_) (fun c4 => absurd hV.2.2.2.1 c4)
  refine sk_S.iload_n (i := 1) (dd DX6_speak 5 rfl) rfl rfl ?_
  refine sk_S.istore (i := 5) (dd DX6_speak 6 rfl) (Nat.le_of_ble_eq_true rfl) rfl ?_
  refine sk_S.iconst (v := 0) (dd DX6_speak 7 rfl) (by decide) ?_
  refine sk_S.istore (i := 6) (dd DX6_speak 8 rfl) (Nat.le_of_ble_eq_true rfl) rfl ?_
  refine sk_S.iload (i := 6) (dd DX6_speak 9 rfl) rfl ?_
  refine sk_S.bipush (v := 7) (dd DX6_speak 10 rfl) (by decide) ?_
  refine sk_S.icmp_ge (tgt := 54) (dd DX6_speak 11 rfl) (by decide) (fun c19 => absurd c19 (by decide)) (fun c19 => ?_)
  refine sk_S.iload (i := 5) (dd DX6_speak 12 rfl) rfl ?_
  refine sk_S.if_le (tgt := 54) (dd DX6_speak 13 rfl) (by decide) (fun c24 => ?_) (fun c24 => absurd (by decide) c24)
  refine sk_S.iload (i := 5) (dd DX6_speak 28 rfl) rfl ?_
  refine sk_S.if_lt (tgt := 66) (dd DX6_speak 29 rfl) (by decide) (fun c56 => absurd c56 (by decide)) (fun c56 => ?_)
  refine sk_S.iload (i := 4) (dd DX6_speak 30 rfl) rfl ?_
  refine sk_S.bipush (v := 30) (dd DX6_speak 31 rfl) (by decide) ?_
  refine sk_S.icmp_le (tgt := 68) (dd DX6_speak 32 rfl) (by decide) (fun c63 => ?_) (fun c63 => absurd (nI_le (b := 30) (by omega) (by decide)) c63)
  refine sk_S.gets (dd DX6_speak 35 rfl) rfl gsX6_40 ?_
  refine sk_S.iload (i := 5) (dd DX6_speak 36 rfl) rfl ?_
  refine sk_S.iconst (v := 4) (dd DX6_speak 37 rfl) (by decide) ?_
  refine sk_S.imul (dd DX6_speak 38 rfl) ?_
  refine sk_S.iload_n (i := 2) (dd DX6_speak 39 rfl) rfl rfl ?_
  refine sk_S.iadd (dd DX6_speak 40 rfl) ?_
  refine sk_S.roald (dd DX6_speak 41 rfl) rfl (j := 3) ⟨by decide, by decide, by decide⟩ rfl ?_
  refine sk_S.istore (i := 6) (dd DX6_speak 42 rfl) (Nat.le_of_ble_eq_true rfl) rfl ?_
  refine sk_S.aload_n (i := 0) (dd DX6_speak 43 rfl) rfl rfl ?_
  refine sk_S.geti (dd DX6_speak 44 rfl) rfl fX6_29 se_4 (by decide) rfl ?_
  refine sk_S.bipush (v := 30) (dd DX6_speak 45 rfl) (by decide) ?_
  refine sk_S.icmp_ge (tgt := 110) (dd DX6_speak 46 rfl) (by decide) (fun c86 => absurd c86 (by rw [hV.2.2.2.2]; exact nI_ge (b := 30) (by omega) (by decide))) (fun c86 => ?_)
  refine sk_S.aload_n (i := 0) (dd DX6_speak 47 rfl) rfl rfl ?_
  refine sk_S.getr (dd DX6_speak 48 rfl) rfl fX6_9 se_4 (by decide) rfl ?_
  refine sk_S.aload_n (i := 0) (dd DX6_speak 49 rfl) rfl rfl ?_
  refine sk_S.geti (dd DX6_speak 50 rfl) rfl fX6_29 se_4 (by decide) rfl ?_
  refine sk_S.iload (i := 6) (dd DX6_speak 51 rfl) rfl ?_
  refine sk_S.iast (dd DX6_speak 52 rfl) se_17 (sk_ix_nI (k := n) hV.2.2.2.2 (by omega) (by decide)) ?_
  refine sk_S.aload_n (i := 0) (dd DX6_speak 53 rfl) rfl rfl ?_
  refine sk_S.dup (dd DX6_speak 54 rfl) rfl ?_
  refine sk_S.geti (dd DX6_speak 55 rfl) rfl fX6_29 se_4 (by decide) rfl ?_
  refine sk_S.iconst (v := 1) (dd DX6_speak 56 rfl) (by decide) ?_
  refine sk_S.iadd (dd DX6_speak 57 rfl) ?_
  refine sk_S.putf (dd DX6_speak 58 rfl) rfl pX6_29 se_4 (by decide) rfl rfl rfl ?_
  have xp := pshC (b := 13) hV.2.2.2.2 hV.2.2.2.1
  have hV2 := hV.up xp
  refine sk_S.aload_n (i := 0) (dd DX6_speak 59 rfl) rfl rfl ?_
  refine sk_S.iload (i := 6) (dd DX6_speak 60 rfl) rfl ?_
  refine sk_S.gets (dd DX6_speak 61 rfl) rfl gsX6_43 ?_
  refine sk_S.iload (i := 5) (dd DX6_speak 62 rfl) rfl ?_
  refine sk_S.roald (dd DX6_speak 63 rfl) rfl (j := 0) ⟨by decide, by decide, by decide⟩ rfl ?_
  refine sk_S.iload_n (i := 3) (dd DX6_speak 64 rfl) rfl rfl ?_
  refine sk_S.iload (i := 4) (dd DX6_speak 65 rfl) rfl ?_
  refine sk_S.iconst (v := 1) (dd DX6_speak 66 rfl) (by decide) ?_
  refine sk_S.iadd (dd DX6_speak 67 rfl) ?_
  refine sk_S.V (nI (dep + 1)) (nI_1 dep) ?_
  refine sk_S.callV (dd DX6_speak 68 rfl) rfl kX6_46 (cV_sy_0_0_3 (by simp only [List.length_cons, List.length_nil]; omega) (by omega) hV2 hp) se_4 (by decide) rfl rfl rfl rfl (Nat.le_of_ble_eq_true rfl) (fun r124 h124 q124 => ?_)
  obtain ⟨x124, rfl⟩ := q124
  show sk_S _ _ _ _ _ _ (.int _ :: _) _ _
  refine sk_S.iret (dd DX6_speak 69 rfl) rfl rfl ?_
  exact ⟨xp.tr x124, rfl⟩
set_option maxRecDepth 100000 in
set_option maxHeartbeats 1000000 in
theorem cV_sy_0_0_3p {l : Launch} {E : sk_V} {d : Nat} {h : sk_M} {m x : Int32} {t n dep : Nat} (hn : n + 0 ≤ 30) (hd : dep + 0 ≤ 30) (hV : voI h 0 m t n) (hp : m - nI t = 0) : sk_K l E (d + 2) MX6_say [.ref 4, .int 13, .int (-1), .int x, .int (nI dep)] h (fun r h1 => tcQ h h1 n [] 1 ∧ some (.int (0 : Int32)) = r) := by
  refine sk_K.of (by decide +kernel) (Nat.le_of_ble_eq_true rfl) ?_
  show sk_S l E (d + 2) _ 0 [some (.ref 4), some (.int 13), some (.int (-1)), some (.int x), some (.int (nI dep))] [] h _
  refine sk_S.iload_n (i := 1) (dd DX6_say_p1 0 rfl) rfl rfl ?_
  · refine sk_S.lookup (off := 147) (dd DX6_say_p1 1 rfl) (by decide) (by decide) (tgt := 148) (by decide) ?_
    refine sk_S.aload_n (i := 0) (dd DX6_say_p1 28 rfl) rfl rfl ?_
    refine sk_S.iload_n (i := 3) (dd DX6_say_p1 29 rfl) rfl rfl ?_
    refine sk_S.callV (dd DX6_say_p1 30 rfl) rfl kX6_49 (cV_partP hV hp) se_4 (by decide) rfl rfl rfl rfl (Nat.le_of_ble_eq_true rfl) (fun r150 h150 q150 => ?_)
    obtain ⟨x150, rfl⟩ := q150
    show sk_S _ _ _ _ _ _ (.int _ :: _) _ _
    refine sk_S.iret (dd DX6_say_p1 31 rfl) rfl rfl ?_
    exact ⟨x150, rfl⟩
set_option maxRecDepth 100000 in
set_option maxHeartbeats 1000000 in
theorem cV_sp_0_0_3p {l : Launch} {E : sk_V} {d : Nat} {h : sk_M} {m x : Int32} {t n dep : Nat} (hn : n + 1 ≤ 30) (hd : dep + 1 ≤ 30) (hV : voI h 0 m t n) (hp : m - nI t = 0) : sk_K l E (d + 3) MX6_speak [.ref 4, .int 0, .int 3, .int x, .int (nI dep)] h (fun r h1 => tcQ h h1 n [13] 1 ∧ some (.int (0 : Int32)) = r) := by
  refine sk_K.of (by decide +kernel) (Nat.le_of_ble_eq_true rfl) ?_
  show sk_S l E (d + 3) _ 0 [some (.ref 4), some (.int 0), some (.int 3), some (.int x), some (.int (nI dep)), none, none] [] h _
  refine sk_S.aload_n (i := 0) (dd DX6_speak 0 rfl) rfl rfl ?_
  refine sk_S.geti (dd DX6_speak 1 rfl) rfl fX6_32 se_4 (by decide) rfl ?_
  refine sk_S.if_eq (tgt := 9) (dd DX6_speak 2 rfl) (by decide) (fun c4 => ?_) (fun c4 => absurd hV.2.2.2.1 c4)
  refine sk_S.iload_n (i := 1) (dd DX6_speak 5 rfl) rfl rfl ?_
  refine sk_S.istore (i := 5) (dd DX6_speak 6 rfl) (Nat.le_of_ble_eq_true rfl) rfl ?_
  refine sk_S.iconst (v := 0) (dd DX6_speak 7 rfl) (by decide) ?_
  refine sk_S.istore (i := 6) (dd DX6_speak 8 rfl) (Nat.le_of_ble_eq_true rfl) rfl ?_
  refine sk_S.iload (i := 6) (dd DX6_speak 9 rfl) rfl ?_
  refine sk_S.bipush (v := 7) (dd DX6_speak 10 rfl) (by decide) ?_
  refine sk_S.icmp_ge (tgt := 54) (dd DX6_speak 11 rfl) (by decide) (fun c19 => absurd c19 (by decide)) (fun c19 => ?_)
  refine sk_S.iload (i := 5) (dd DX6_speak 12 rfl) rfl ?_
  refine sk_S.if_le (tgt := 54) (dd DX6_speak 13 rfl) (by decide) (fun c24 => ?_) (fun c24 => absurd (by decide) c24)
  refine sk_S.iload (i := 5) (dd DX6_speak 28 rfl) rfl ?_
  refine sk_S.if_lt (tgt := 66) (dd DX6_speak 29 rfl) (by decide) (fun c56 => absurd c56 (by decide)) (fun c56 => ?_)
  refine sk_S.iload (i := 4) (dd DX6_speak 30 rfl) rfl ?_
  refine sk_S.bipush (v := 30) (dd DX6_speak 31 rfl) (by decide) ?_
  refine sk_S.icmp_le (tgt := 68) (dd DX6_speak 32 rfl) (by decide) (fun c63 => ?_) (fun c63 => absurd (nI_le (b := 30) (by omega) (by decide)) c63)
  refine sk_S.gets (dd DX6_speak 35 rfl) rfl gsX6_40 ?_
  refine sk_S.iload (i := 5) (dd DX6_speak 36 rfl) rfl ?_
  refine sk_S.iconst (v := 4) (dd DX6_speak 37 rfl) (by decide) ?_
  refine sk_S.imul (dd DX6_speak 38 rfl) ?_
  refine sk_S.iload_n (i := 2) (dd DX6_speak 39 rfl) rfl rfl ?_
  refine sk_S.iadd (dd DX6_speak 40 rfl) ?_
  refine sk_S.roald (dd DX6_speak 41 rfl) rfl (j := 3) ⟨by decide, by decide, by decide⟩ rfl ?_
  refine sk_S.istore (i := 6) (dd DX6_speak 42 rfl) (Nat.le_of_ble_eq_true rfl) rfl ?_
  refine sk_S.aload_n (i := 0) (dd DX6_speak 43 rfl) rfl rfl ?_
  refine sk_S.geti (dd DX6_speak 44 rfl) rfl fX6_29 se_4 (by decide) rfl ?_
  refine sk_S.bipush (v := 30) (dd DX6_speak 45 rfl) (by decide) ?_
  refine sk_S.icmp_ge (tgt := 110) (dd DX6_speak 46 rfl) (by decide) (fun c86 => absurd c86 (by rw [hV.2.2.2.2]; exact nI_ge (b := 30) (by omega) (by decide))) (fun c86 => ?_)
  refine sk_S.aload_n (i := 0) (dd DX6_speak 47 rfl) rfl rfl ?_
  refine sk_S.getr (dd DX6_speak 48 rfl) rfl fX6_9 se_4 (by decide) rfl ?_
  refine sk_S.aload_n (i := 0) (dd DX6_speak 49 rfl) rfl rfl ?_
  refine sk_S.geti (dd DX6_speak 50 rfl) rfl fX6_29 se_4 (by decide) rfl ?_
  refine sk_S.iload (i := 6) (dd DX6_speak 51 rfl) rfl ?_
  refine sk_S.iast (dd DX6_speak 52 rfl) se_17 (sk_ix_nI (k := n) hV.2.2.2.2 (by omega) (by decide)) ?_
  refine sk_S.aload_n (i := 0) (dd DX6_speak 53 rfl) rfl rfl ?_
  refine sk_S.dup (dd DX6_speak 54 rfl) rfl ?_
  refine sk_S.geti (dd DX6_speak 55 rfl) rfl fX6_29 se_4 (by decide) rfl ?_
  refine sk_S.iconst (v := 1) (dd DX6_speak 56 rfl) (by decide) ?_
  refine sk_S.iadd (dd DX6_speak 57 rfl) ?_
  refine sk_S.putf (dd DX6_speak 58 rfl) rfl pX6_29 se_4 (by decide) rfl rfl rfl ?_
  have xp := pshC (b := 13) hV.2.2.2.2 hV.2.2.2.1
  have hV2 := hV.up xp
  refine sk_S.aload_n (i := 0) (dd DX6_speak 59 rfl) rfl rfl ?_
  refine sk_S.iload (i := 6) (dd DX6_speak 60 rfl) rfl ?_
  refine sk_S.gets (dd DX6_speak 61 rfl) rfl gsX6_43 ?_
  refine sk_S.iload (i := 5) (dd DX6_speak 62 rfl) rfl ?_
  refine sk_S.roald (dd DX6_speak 63 rfl) rfl (j := 0) ⟨by decide, by decide, by decide⟩ rfl ?_
  refine sk_S.iload_n (i := 3) (dd DX6_speak 64 rfl) rfl rfl ?_
  refine sk_S.iload (i := 4) (dd DX6_speak 65 rfl) rfl ?_
  refine sk_S.iconst (v := 1) (dd DX6_speak 66 rfl) (by decide) ?_
  refine sk_S.iadd (dd DX6_speak 67 rfl) ?_
  refine sk_S.V (nI (dep + 1)) (nI_1 dep) ?_
  refine sk_S.callV (dd DX6_speak 68 rfl) rfl kX6_46 (cV_sy_0_0_3p (by simp only [List.length_cons, List.length_nil]; omega) (by omega) hV2 hp) se_4 (by decide) rfl rfl rfl rfl (Nat.le_of_ble_eq_true rfl) (fun r124 h124 q124 => ?_)
  obtain ⟨x124, rfl⟩ := q124
  show sk_S _ _ _ _ _ _ (.int _ :: _) _ _
  refine sk_S.iret (dd DX6_speak 69 rfl) rfl rfl ?_
  exact ⟨xp.tr x124, rfl⟩
set_option maxRecDepth 100000 in
set_option maxHeartbeats 1000000 in
theorem cV_sy_1_0_0 {l : Launch} {E : sk_V} {d : Nat} {h : sk_M} {m x : Int32} {t n dep : Nat} (hn : n + 0 ≤ 30) (hd : dep + 0 ≤ 30) (hV : voI h 1 m t n) : sk_K l E (d + 1) MX6_say [.ref 4, .int 10, .int (-1), .int x, .int (nI dep)] h (fun r h1 => tcQ h h1 n [] 0 ∧ some (.int (x + nI t)) = r) := by
  refine sk_K.of (by decide +kernel) (Nat.le_of_ble_eq_true rfl) ?_
  show sk_S l E (d + 1) _ 0 [some (.ref 4), some (.int 10), some (.int (-1)), some (.int x), some (.int (nI dep))] [] h _
  refine sk_S.iload_n (i := 1) (dd DX6_say_p1 0 rfl) rfl rfl ?_
  · refine sk_S.lookup (off := 107) (dd DX6_say_p1 1 rfl) (by decide) (by decide) (tgt := 108) (by decide) ?_
    refine sk_S.iload_n (i := 3) (dd DX6_say_p1 2 rfl) rfl rfl ?_
    refine sk_S.aload_n (i := 0) (dd DX6_say_p1 3 rfl) rfl rfl ?_
    refine sk_S.geti (dd DX6_say_p1 4 rfl) rfl fX6_26 se_4 (by decide) rfl ?_
    refine sk_S.V (nI t) hV.2.1 ?_
    refine sk_S.iadd (dd DX6_say_p1 5 rfl) ?_
    refine sk_S.iret (dd DX6_say_p1 6 rfl) rfl rfl ?_
    have e := tcQ.rf hV.2.2.2.2
    rw [hV.2.2.2.1] at e
    exact ⟨e, rfl⟩
set_option maxRecDepth 100000 in
set_option maxHeartbeats 1000000 in
theorem cV_sp_1_0_0 {l : Launch} {E : sk_V} {d : Nat} {h : sk_M} {m x : Int32} {t n dep : Nat} (hn : n + 1 ≤ 30) (hd : dep + 1 ≤ 30) (hV : voI h 1 m t n) : sk_K l E (d + 2) MX6_speak [.ref 4, .int 0, .int 0, .int x, .int (nI dep)] h (fun r h1 => tcQ h h1 n [10] 0 ∧ some (.int (x + nI t)) = r) := by
  refine sk_K.of (by decide +kernel) (Nat.le_of_ble_eq_true rfl) ?_
  show sk_S l E (d + 2) _ 0 [some (.ref 4), some (.int 0), some (.int 0), some (.int x), some (.int (nI dep)), none, none] [] h _
  refine sk_S.aload_n (i := 0) (dd DX6_speak 0 rfl) rfl rfl ?_
  refine sk_S.geti (dd DX6_speak 1 rfl) rfl fX6_32 se_4 (by decide) rfl ?_
  refine sk_S.if_eq (tgt := 9) (dd DX6_speak 2 rfl) (by decide) (fun c4 => ?_) (fun c4 => absurd hV.2.2.2.1 c4)
  refine sk_S.iload_n (i := 1) (dd DX6_speak 5 rfl) rfl rfl ?_
  refine sk_S.istore (i := 5) (dd DX6_speak 6 rfl) (Nat.le_of_ble_eq_true rfl) rfl ?_
  refine sk_S.iconst (v := 0) (dd DX6_speak 7 rfl) (by decide) ?_
  refine sk_S.istore (i := 6) (dd DX6_speak 8 rfl) (Nat.le_of_ble_eq_true rfl) rfl ?_
  refine sk_S.iload (i := 6) (dd DX6_speak 9 rfl) rfl ?_
  refine sk_S.bipush (v := 7) (dd DX6_speak 10 rfl) (by decide) ?_
  refine sk_S.icmp_ge (tgt := 54) (dd DX6_speak 11 rfl) (by decide) (fun c19 => absurd c19 (by decide)) (fun c19 => ?_)
  refine sk_S.iload (i := 5) (dd DX6_speak 12 rfl) rfl ?_
  refine sk_S.if_le (tgt := 54) (dd DX6_speak 13 rfl) (by decide) (fun c24 => ?_) (fun c24 => absurd (by decide) c24)
  refine sk_S.iload (i := 5) (dd DX6_speak 28 rfl) rfl ?_
  refine sk_S.if_lt (tgt := 66) (dd DX6_speak 29 rfl) (by decide) (fun c56 => absurd c56 (by decide)) (fun c56 => ?_)
  refine sk_S.iload (i := 4) (dd DX6_speak 30 rfl) rfl ?_
  refine sk_S.bipush (v := 30) (dd DX6_speak 31 rfl) (by decide) ?_
  refine sk_S.icmp_le (tgt := 68) (dd DX6_speak 32 rfl) (by decide) (fun c63 => ?_) (fun c63 => absurd (nI_le (b := 30) (by omega) (by decide)) c63)
  refine sk_S.gets (dd DX6_speak 35 rfl) rfl gsX6_40 ?_
  refine sk_S.iload (i := 5) (dd DX6_speak 36 rfl) rfl ?_
  refine sk_S.iconst (v := 4) (dd DX6_speak 37 rfl) (by decide) ?_
  refine sk_S.imul (dd DX6_speak 38 rfl) ?_
  refine sk_S.iload_n (i := 2) (dd DX6_speak 39 rfl) rfl rfl ?_
  refine sk_S.iadd (dd DX6_speak 40 rfl) ?_
  refine sk_S.roald (dd DX6_speak 41 rfl) rfl (j := 0) ⟨by decide, by decide, by decide⟩ rfl ?_
  refine sk_S.istore (i := 6) (dd DX6_speak 42 rfl) (Nat.le_of_ble_eq_true rfl) rfl ?_
  refine sk_S.aload_n (i := 0) (dd DX6_speak 43 rfl) rfl rfl ?_
  refine sk_S.geti (dd DX6_speak 44 rfl) rfl fX6_29 se_4 (by decide) rfl ?_
  refine sk_S.bipush (v := 30) (dd DX6_speak 45 rfl) (by decide) ?_
  refine sk_S.icmp_ge (tgt := 110) (dd DX6_speak 46 rfl) (by decide) (fun c86 => absurd c86 (by rw [hV.2.2.2.2]; exact nI_ge (b := 30) (by omega) (by decide))) (fun c86 => ?_)
  refine sk_S.aload_n (i := 0) (dd DX6_speak 47 rfl) rfl rfl ?_
  refine sk_S.getr (dd DX6_speak 48 rfl) rfl fX6_9 se_4 (by decide) rfl ?_
  refine sk_S.aload_n (i := 0) (dd DX6_speak 49 rfl) rfl rfl ?_
  refine sk_S.geti (dd DX6_speak 50 rfl) rfl fX6_29 se_4 (by decide) rfl ?_
  refine sk_S.iload (i := 6) (dd DX6_speak 51 rfl) rfl ?_
  refine sk_S.iast (dd DX6_speak 52 rfl) se_17 (sk_ix_nI (k := n) hV.2.2.2.2 (by omega) (by decide)) ?_
  refine sk_S.aload_n (i := 0) (dd DX6_speak 53 rfl) rfl rfl ?_
  refine sk_S.dup (dd DX6_speak 54 rfl) rfl ?_
  refine sk_S.geti (dd DX6_speak 55 rfl) rfl fX6_29 se_4 (by decide) rfl ?_
  refine sk_S.iconst (v := 1) (dd DX6_speak 56 rfl) (by decide) ?_
  refine sk_S.iadd (dd DX6_speak 57 rfl) ?_
  refine sk_S.putf (dd DX6_speak 58 rfl) rfl pX6_29 se_4 (by decide) rfl rfl rfl ?_
  have xp := pshC (b := 10) hV.2.2.2.2 hV.2.2.2.1
  have hV2 := hV.up xp
  refine sk_S.aload_n (i := 0) (dd DX6_speak 59 rfl) rfl rfl ?_
  refine sk_S.iload (i := 6) (dd DX6_speak 60 rfl) rfl ?_
  refine sk_S.gets (dd DX6_speak 61 rfl) rfl gsX6_43 ?_
  refine sk_S.iload (i := 5) (dd DX6_speak 62 rfl) rfl ?_
  refine sk_S.roald (dd DX6_speak 63 rfl) rfl (j := 0) ⟨by decide, by decide, by decide⟩ rfl ?_
  refine sk_S.iload_n (i := 3) (dd DX6_speak 64 rfl) rfl rfl ?_
  refine sk_S.iload (i := 4) (dd DX6_speak 65 rfl) rfl ?_
  refine sk_S.iconst (v := 1) (dd DX6_speak 66 rfl) (by decide) ?_
  refine sk_S.iadd (dd DX6_speak 67 rfl) ?_
  refine sk_S.V (nI (dep + 1)) (nI_1 dep) ?_
  refine sk_S.callV (dd DX6_speak 68 rfl) rfl kX6_46 (cV_sy_1_0_0 (by simp only [List.length_cons, List.length_nil]; omega) (by omega) hV2) se_4 (by decide) rfl rfl rfl rfl (Nat.le_of_ble_eq_true rfl) (fun r124 h124 q124 => ?_)
  obtain ⟨x124, rfl⟩ := q124
  show sk_S _ _ _ _ _ _ (.int _ :: _) _ _
  refine sk_S.iret (dd DX6_speak 69 rfl) rfl rfl ?_
  exact ⟨xp.tr x124, rfl⟩
set_option maxRecDepth 100000 in
set_option maxHeartbeats 1000000 in
theorem cV_sy_1_1_0 {l : Launch} {E : sk_V} {d : Nat} {h : sk_M} {m x : Int32} {t n dep : Nat} (hn : n + 1 ≤ 30) (hd : dep + 1 ≤ 30) (hV : voI h 1 m t n) : sk_K l E (d + 4) MX6_say [.ref 4, .int 20, .int 0, .int x, .int (nI dep)] h (fun r h1 => tcQ h h1 n [10] 0 ∧ some (.int ((x + nI t) - 4)) = r) := by
  refine sk_K.of (by decide +kernel) (Nat.le_of_ble_eq_true rfl) ?_
  show sk_S l E (d + 4) _ 0 [some (.ref 4), some (.int 20), some (.int 0), some (.int x), some (.int (nI dep))] [] h _
  refine sk_S.iload_n (i := 1) (dd DX6_say_p1 0 rfl) rfl rfl ?_
  · refine sk_S.lookup (off := 153) (dd DX6_say_p1 1 rfl) (by decide) (by decide) (tgt := 154) (by decide) ?_
    refine sk_S.aload_n (i := 0) (dd DX6_say_p1 32 rfl) rfl rfl ?_
    refine sk_S.iload_n (i := 2) (dd DX6_say_p1 33 rfl) rfl rfl ?_
    refine sk_S.iconst (v := 0) (dd DX6_say_p1 34 rfl) (by decide) ?_
    refine sk_S.iload_n (i := 3) (dd DX6_say_p1 35 rfl) rfl rfl ?_
    refine sk_S.iload (i := 4) (dd DX6_say_p1 36 rfl) rfl ?_
    refine sk_S.callV (dd DX6_say_p1 37 rfl) rfl kX6_36 (cV_sp_1_0_0 (x := x) (by omega) (by omega) hV) se_4 (by decide) rfl rfl rfl rfl (Nat.le_of_ble_eq_true rfl) (fun r160 h160 q160 => ?_)
    obtain ⟨x160, rfl⟩ := q160
    show sk_S _ _ _ _ _ _ (.int _ :: _) _ _
    refine sk_S.iconst (v := 4) (dd DX6_say_p1 38 rfl) (by decide) ?_
    refine sk_S.isub (dd DX6_say_p1 39 rfl) ?_
    refine sk_S.iret (dd DX6_say_p1 40 rfl) rfl rfl ?_
    exact ⟨x160, rfl⟩
set_option maxRecDepth 100000 in
set_option maxHeartbeats 1000000 in
theorem cV_sp_1_1_0 {l : Launch} {E : sk_V} {d : Nat} {h : sk_M} {m x : Int32} {t n dep : Nat} (hn : n + 2 ≤ 30) (hd : dep + 2 ≤ 30) (hV : voI h 1 m t n) : sk_K l E (d + 5) MX6_speak [.ref 4, .int 1, .int 0, .int x, .int (nI dep)] h (fun r h1 => tcQ h h1 n [20, 10] 0 ∧ some (.int ((x + nI t) - 4)) = r) := by
  refine sk_K.of (by decide +kernel) (Nat.le_of_ble_eq_true rfl) ?_
  show sk_S l E (d + 5) _ 0 [some (.ref 4), some (.int 1), some (.int 0), some (.int x), some (.int (nI dep)), none, none] [] h _
  refine sk_S.aload_n (i := 0) (dd DX6_speak 0 rfl) rfl rfl ?_
  refine sk_S.geti (dd DX6_speak 1 rfl) rfl fX6_32 se_4 (by decide) rfl ?_
  refine sk_S.if_eq (tgt := 9) (dd DX6_speak 2 rfl) (by decide) (fun c4 => ?_) (fun c4 => absurd hV.2.2.2.1 c4)
  refine sk_S.iload_n (i := 1) (dd DX6_speak 5 rfl) rfl rfl ?_
  refine sk_S.istore (i := 5) (dd DX6_speak 6 rfl) (Nat.le_of_ble_eq_true rfl) rfl ?_
  refine sk_S.iconst (v := 0) (dd DX6_speak 7 rfl) (by decide) ?_
  refine sk_S.istore (i := 6) (dd DX6_speak 8 rfl) (Nat.le_of_ble_eq_true rfl) rfl ?_
  refine sk_S.iload (i := 6) (dd DX6_speak 9 rfl) rfl ?_
  refine sk_S.bipush (v := 7) (dd DX6_speak 10 rfl) (by decide) ?_
  refine sk_S.icmp_ge (tgt := 54) (dd DX6_speak 11 rfl) (by decide) (fun c19 => absurd c19 (by decide)) (fun c19 => ?_)
  refine sk_S.iload (i := 5) (dd DX6_speak 12 rfl) rfl ?_
  refine sk_S.if_le (tgt := 54) (dd DX6_speak 13 rfl) (by decide) (fun c24 => absurd c24 (by decide)) (fun c24 => ?_)
  refine sk_S.gets (dd DX6_speak 14 rfl) rfl gsX6_40 ?_
  refine sk_S.iload (i := 5) (dd DX6_speak 15 rfl) rfl ?_
  refine sk_S.iconst (v := 4) (dd DX6_speak 16 rfl) (by decide) ?_
  refine sk_S.imul (dd DX6_speak 17 rfl) ?_
  refine sk_S.iload_n (i := 2) (dd DX6_speak 18 rfl) rfl rfl ?_
  refine sk_S.iadd (dd DX6_speak 19 rfl) ?_
  refine sk_S.roald (dd DX6_speak 20 rfl) rfl (j := 4) ⟨by decide, by decide, by decide⟩ rfl ?_
  refine sk_S.if_ne (tgt := 54) (dd DX6_speak 21 rfl) (by decide) (fun c37 => ?_) (fun c37 => absurd c37 (by decide))
  refine sk_S.iload (i := 5) (dd DX6_speak 28 rfl) rfl ?_
  refine sk_S.if_lt (tgt := 66) (dd DX6_speak 29 rfl) (by decide) (fun c56 => absurd c56 (by decide)) (fun c56 => ?_)
  refine sk_S.iload (i := 4) (dd DX6_speak 30 rfl) rfl ?_
  refine sk_S.bipush (v := 30) (dd DX6_speak 31 rfl) (by decide) ?_
  refine sk_S.icmp_le (tgt := 68) (dd DX6_speak 32 rfl) (by decide) (fun c63 => ?_) (fun c63 => absurd (nI_le (b := 30) (by omega) (by decide)) c63)
  refine sk_S.gets (dd DX6_speak 35 rfl) rfl gsX6_40 ?_
  refine sk_S.iload (i := 5) (dd DX6_speak 36 rfl) rfl ?_
  refine sk_S.iconst (v := 4) (dd DX6_speak 37 rfl) (by decide) ?_
  refine sk_S.imul (dd DX6_speak 38 rfl) ?_
  refine sk_S.iload_n (i := 2) (dd DX6_speak 39 rfl) rfl rfl ?_
  refine sk_S.iadd (dd DX6_speak 40 rfl) ?_
  refine sk_S.roald (dd DX6_speak 41 rfl) rfl (j := 4) ⟨by decide, by decide, by decide⟩ rfl ?_
  refine sk_S.istore (i := 6) (dd DX6_speak 42 rfl) (Nat.le_of_ble_eq_true rfl) rfl ?_
  refine sk_S.aload_n (i := 0) (dd DX6_speak 43 rfl) rfl rfl ?_
  refine sk_S.geti (dd DX6_speak 44 rfl) rfl fX6_29 se_4 (by decide) rfl ?_
  refine sk_S.bipush (v := 30) (dd DX6_speak 45 rfl) (by decide) ?_
  refine sk_S.icmp_ge (tgt := 110) (dd DX6_speak 46 rfl) (by decide) (fun c86 => absurd c86 (by rw [hV.2.2.2.2]; exact nI_ge (b := 30) (by omega) (by decide))) (fun c86 => ?_)
  refine sk_S.aload_n (i := 0) (dd DX6_speak 47 rfl) rfl rfl ?_
  refine sk_S.getr (dd DX6_speak 48 rfl) rfl fX6_9 se_4 (by decide) rfl ?_
  refine sk_S.aload_n (i := 0) (dd DX6_speak 49 rfl) rfl rfl ?_
  refine sk_S.geti (dd DX6_speak 50 rfl) rfl fX6_29 se_4 (by decide) rfl ?_
  refine sk_S.iload (i := 6) (dd DX6_speak 51 rfl) rfl ?_
  refine sk_S.iast (dd DX6_speak 52 rfl) se_17 (sk_ix_nI (k := n) hV.2.2.2.2 (by omega) (by decide)) ?_
  refine sk_S.aload_n (i := 0) (dd DX6_speak 53 rfl) rfl rfl ?_
  refine sk_S.dup (dd DX6_speak 54 rfl) rfl ?_
  refine sk_S.geti (dd DX6_speak 55 rfl) rfl fX6_29 se_4 (by decide) rfl ?_
  refine sk_S.iconst (v := 1) (dd DX6_speak 56 rfl) (by decide) ?_
  refine sk_S.iadd (dd DX6_speak 57 rfl) ?_
  refine sk_S.putf (dd DX6_speak 58 rfl) rfl pX6_29 se_4 (by decide) rfl rfl rfl ?_
  have xp := pshC (b := 20) hV.2.2.2.2 hV.2.2.2.1
  have hV2 := hV.up xp
  refine sk_S.aload_n (i := 0) (dd DX6_speak 59 rfl) rfl rfl ?_
  refine sk_S.iload (i := 6) (dd DX6_speak 60 rfl) rfl ?_
  refine sk_S.gets (dd DX6_speak 61 rfl) rfl gsX6_43 ?_
  refine sk_S.iload (i := 5) (dd DX6_speak 62 rfl) rfl ?_
  refine sk_S.roald (dd DX6_speak 63 rfl) rfl (j := 1) ⟨by decide, by decide, by decide⟩ rfl ?_
  refine sk_S.iload_n (i := 3) (dd DX6_speak 64 rfl) rfl rfl ?_
  refine sk_S.iload (i := 4) (dd DX6_speak 65 rfl) rfl ?_
  refine sk_S.iconst (v := 1) (dd DX6_speak 66 rfl) (by decide) ?_
  refine sk_S.iadd (dd DX6_speak 67 rfl) ?_
  refine sk_S.V (nI (dep + 1)) (nI_1 dep) ?_
  refine sk_S.callV (dd DX6_speak 68 rfl) rfl kX6_46 (cV_sy_1_1_0 (by simp only [List.length_cons, List.length_nil]; omega) (by omega) hV2) se_4 (by decide) rfl rfl rfl rfl (Nat.le_of_ble_eq_true rfl) (fun r124 h124 q124 => ?_)
  obtain ⟨x124, rfl⟩ := q124
  show sk_S _ _ _ _ _ _ (.int _ :: _) _ _
  refine sk_S.iret (dd DX6_speak 69 rfl) rfl rfl ?_
  exact ⟨xp.tr x124, rfl⟩
set_option maxRecDepth 100000 in
set_option maxHeartbeats 1000000 in
theorem cV_sy_1_1_1 {l : Launch} {E : sk_V} {d : Nat} {h : sk_M} {m x : Int32} {t n dep : Nat} (hn : n + 2 ≤ 30) (hd : dep + 2 ≤ 30) (hV : voI h 1 m t n) : sk_K l E (d + 7) MX6_say [.ref 4, .int 11, .int (-1), .int x, .int (nI dep)] h (fun r h1 => tcQ h h1 n [20, 10] 0 ∧ some (.int (((x + nI t) - 4) * 2)) = r) := by
  refine sk_K.of (by decide +kernel) (Nat.le_of_ble_eq_true rfl) ?_
  show sk_S l E (d + 7) _ 0 [some (.ref 4), some (.int 11), some (.int (-1)), some (.int x), some (.int (nI dep))] [] h _
  refine sk_S.iload_n (i := 1) (dd DX6_say_p1 0 rfl) rfl rfl ?_
  · refine sk_S.lookup (off := 114) (dd DX6_say_p1 1 rfl) (by decide) (by decide) (tgt := 115) (by decide) ?_
    refine sk_S.aload_n (i := 0) (dd DX6_say_p1 7 rfl) rfl rfl ?_
    refine sk_S.aload_n (i := 0) (dd DX6_say_p1 8 rfl) rfl rfl ?_
    refine sk_S.geti (dd DX6_say_p1 9 rfl) rfl fX6_21 se_4 (by decide) rfl ?_
    refine sk_S.V 1 hV.1 ?_
    refine sk_S.iconst (v := 0) (dd DX6_say_p1 10 rfl) (by decide) ?_
    refine sk_S.iload_n (i := 3) (dd DX6_say_p1 11 rfl) rfl rfl ?_
    refine sk_S.iload (i := 4) (dd DX6_say_p1 12 rfl) rfl ?_
    refine sk_S.callV (dd DX6_say_p1 13 rfl) rfl kX6_36 (cV_sp_1_1_0 (x := x) (by omega) (by omega) hV) se_4 (by decide) rfl rfl rfl rfl (Nat.le_of_ble_eq_true rfl) (fun r124 h124 q124 => ?_)
    obtain ⟨x124, rfl⟩ := q124
    show sk_S _ _ _ _ _ _ (.int _ :: _) _ _
    refine sk_S.iconst (v := 2) (dd DX6_say_p1 14 rfl) (by decide) ?_
    refine sk_S.imul (dd DX6_say_p1 15 rfl) ?_
    refine sk_S.iret (dd DX6_say_p1 16 rfl) rfl rfl ?_
    exact ⟨x124, rfl⟩
set_option maxRecDepth 100000 in
set_option maxHeartbeats 1000000 in
theorem cV_sp_1_1_1 {l : Launch} {E : sk_V} {d : Nat} {h : sk_M} {m x : Int32} {t n dep : Nat} (hn : n + 3 ≤ 30) (hd : dep + 3 ≤ 30) (hV : voI h 1 m t n) : sk_K l E (d + 8) MX6_speak [.ref 4, .int 1, .int 1, .int x, .int (nI dep)] h (fun r h1 => tcQ h h1 n [11, 20, 10] 0 ∧ some (.int (((x + nI t) - 4) * 2)) = r) := by
  refine sk_K.of (by decide +kernel) (Nat.le_of_ble_eq_true rfl) ?_
  show sk_S l E (d + 8) _ 0 [some (.ref 4), some (.int 1), some (.int 1), some (.int x), some (.int (nI dep)), none, none] [] h _
  refine sk_S.aload_n (i := 0) (dd DX6_speak 0 rfl) rfl rfl ?_
  refine sk_S.geti (dd DX6_speak 1 rfl) rfl fX6_32 se_4 (by decide) rfl ?_
  refine sk_S.if_eq (tgt := 9) (dd DX6_speak 2 rfl) (by decide) (fun c4 => ?_) (fun c4 => absurd hV.2.2.2.1 c4)
  refine sk_S.iload_n (i := 1) (dd DX6_speak 5 rfl) rfl rfl ?_
  refine sk_S.istore (i := 5) (dd DX6_speak 6 rfl) (Nat.le_of_ble_eq_true rfl) rfl ?_
  refine sk_S.iconst (v := 0) (dd DX6_speak 7 rfl) (by decide) ?_
  refine sk_S.istore (i := 6) (dd DX6_speak 8 rfl) (Nat.le_of_ble_eq_true rfl) rfl ?_
  refine sk_S.iload (i := 6) (dd DX6_speak 9 rfl) rfl ?_
  refine sk_S.bipush (v := 7) (dd DX6_speak 10 rfl) (by decide) ?_
  refine sk_S.icmp_ge (tgt := 54) (dd DX6_speak 11 rfl) (by decide) (fun c19 => absurd c19 (by decide)) (fun c19 => ?_)
  refine sk_S.iload (i := 5) (dd DX6_speak 12 rfl) rfl ?_
  refine sk_S.if_le (tgt := 54) (dd DX6_speak 13 rfl) (by decide) (fun c24 => absurd c24 (by decide)) (fun c24 => ?_)
  refine sk_S.gets (dd DX6_speak 14 rfl) rfl gsX6_40 ?_
  refine sk_S.iload (i := 5) (dd DX6_speak 15 rfl) rfl ?_
  refine sk_S.iconst (v := 4) (dd DX6_speak 16 rfl) (by decide) ?_
  refine sk_S.imul (dd DX6_speak 17 rfl) ?_
  refine sk_S.iload_n (i := 2) (dd DX6_speak 18 rfl) rfl rfl ?_
  refine sk_S.iadd (dd DX6_speak 19 rfl) ?_
  refine sk_S.roald (dd DX6_speak 20 rfl) rfl (j := 5) ⟨by decide, by decide, by decide⟩ rfl ?_
  refine sk_S.if_ne (tgt := 54) (dd DX6_speak 21 rfl) (by decide) (fun c37 => absurd (by decide) c37) (fun c37 => ?_)
  refine sk_S.gets (dd DX6_speak 22 rfl) rfl gsX6_43 ?_
  refine sk_S.iload (i := 5) (dd DX6_speak 23 rfl) rfl ?_
  refine sk_S.roald (dd DX6_speak 24 rfl) rfl (j := 1) ⟨by decide, by decide, by decide⟩ rfl ?_
  refine sk_S.istore (i := 5) (dd DX6_speak 25 rfl) (Nat.le_of_ble_eq_true rfl) rfl ?_
  refine sk_S.iinc (i := 6) (v := _ + 1) (dd DX6_speak 26 rfl) rfl rfl rfl ?_
  refine sk_S.goto (tgt := 15) (dd DX6_speak 27 rfl) (by decide) ?_
  refine sk_S.iload (i := 6) (dd DX6_speak 9 rfl) rfl ?_
  refine sk_S.bipush (v := 7) (dd DX6_speak 10 rfl) (by decide) ?_
  refine sk_S.icmp_ge (tgt := 54) (dd DX6_speak 11 rfl) (by decide) (fun c19 => absurd c19 (by decide)) (fun c19 => ?_)
  refine sk_S.iload (i := 5) (dd DX6_speak 12 rfl) rfl ?_
  refine sk_S.if_le (tgt := 54) (dd DX6_speak 13 rfl) (by decide) (fun c24 => ?_) (fun c24 => absurd (by decide) c24)
  refine sk_S.iload (i := 5) (dd DX6_speak 28 rfl) rfl ?_
  refine sk_S.if_lt (tgt := 66) (dd DX6_speak 29 rfl) (by decide) (fun c56 => absurd c56 (by decide)) (fun c56 => ?_)
  refine sk_S.iload (i := 4) (dd DX6_speak 30 rfl) rfl ?_
  refine sk_S.bipush (v := 30) (dd DX6_speak 31 rfl) (by decide) ?_
  refine sk_S.icmp_le (tgt := 68) (dd DX6_speak 32 rfl) (by decide) (fun c63 => ?_) (fun c63 => absurd (nI_le (b := 30) (by omega) (by decide)) c63)
  refine sk_S.gets (dd DX6_speak 35 rfl) rfl gsX6_40 ?_
  refine sk_S.iload (i := 5) (dd DX6_speak 36 rfl) rfl ?_
  refine sk_S.iconst (v := 4) (dd DX6_speak 37 rfl) (by decide) ?_
  refine sk_S.imul (dd DX6_speak 38 rfl) ?_
  refine sk_S.iload_n (i := 2) (dd DX6_speak 39 rfl) rfl rfl ?_
  refine sk_S.iadd (dd DX6_speak 40 rfl) ?_
  refine sk_S.roald (dd DX6_speak 41 rfl) rfl (j := 1) ⟨by decide, by decide, by decide⟩ rfl ?_
  refine sk_S.istore (i := 6) (dd DX6_speak 42 rfl) (Nat.le_of_ble_eq_true rfl) rfl ?_
  refine sk_S.aload_n (i := 0) (dd DX6_speak 43 rfl) rfl rfl ?_
  refine sk_S.geti (dd DX6_speak 44 rfl) rfl fX6_29 se_4 (by decide) rfl ?_
  refine sk_S.bipush (v := 30) (dd DX6_speak 45 rfl) (by decide) ?_
  refine sk_S.icmp_ge (tgt := 110) (dd DX6_speak 46 rfl) (by decide) (fun c86 => absurd c86 (by rw [hV.2.2.2.2]; exact nI_ge (b := 30) (by omega) (by decide))) (fun c86 => ?_)
  refine sk_S.aload_n (i := 0) (dd DX6_speak 47 rfl) rfl rfl ?_
  refine sk_S.getr (dd DX6_speak 48 rfl) rfl fX6_9 se_4 (by decide) rfl ?_
  refine sk_S.aload_n (i := 0) (dd DX6_speak 49 rfl) rfl rfl ?_
  refine sk_S.geti (dd DX6_speak 50 rfl) rfl fX6_29 se_4 (by decide) rfl ?_
  refine sk_S.iload (i := 6) (dd DX6_speak 51 rfl) rfl ?_
  refine sk_S.iast (dd DX6_speak 52 rfl) se_17 (sk_ix_nI (k := n) hV.2.2.2.2 (by omega) (by decide)) ?_
  refine sk_S.aload_n (i := 0) (dd DX6_speak 53 rfl) rfl rfl ?_
  refine sk_S.dup (dd DX6_speak 54 rfl) rfl ?_
  refine sk_S.geti (dd DX6_speak 55 rfl) rfl fX6_29 se_4 (by decide) rfl ?_
  refine sk_S.iconst (v := 1) (dd DX6_speak 56 rfl) (by decide) ?_
  refine sk_S.iadd (dd DX6_speak 57 rfl) ?_
  refine sk_S.putf (dd DX6_speak 58 rfl) rfl pX6_29 se_4 (by decide) rfl rfl rfl ?_
  have xp := pshC (b := 11) hV.2.2.2.2 hV.2.2.2.1
  have hV2 := hV.up xp
  refine sk_S.aload_n (i := 0) (dd DX6_speak 59 rfl) rfl rfl ?_
  refine sk_S.iload (i := 6) (dd DX6_speak 60 rfl) rfl ?_
  refine sk_S.gets (dd DX6_speak 61 rfl) rfl gsX6_43 ?_
  refine sk_S.iload (i := 5) (dd DX6_speak 62 rfl) rfl ?_
  refine sk_S.roald (dd DX6_speak 63 rfl) rfl (j := 0) ⟨by decide, by decide, by decide⟩ rfl ?_
  refine sk_S.iload_n (i := 3) (dd DX6_speak 64 rfl) rfl rfl ?_
  refine sk_S.iload (i := 4) (dd DX6_speak 65 rfl) rfl ?_
  refine sk_S.iconst (v := 1) (dd DX6_speak 66 rfl) (by decide) ?_
  refine sk_S.iadd (dd DX6_speak 67 rfl) ?_
  refine sk_S.V (nI (dep + 1)) (nI_1 dep) ?_
  refine sk_S.callV (dd DX6_speak 68 rfl) rfl kX6_46 (cV_sy_1_1_1 (by simp only [List.length_cons, List.length_nil]; omega) (by omega) hV2) se_4 (by decide) rfl rfl rfl rfl (Nat.le_of_ble_eq_true rfl) (fun r124 h124 q124 => ?_)
  obtain ⟨x124, rfl⟩ := q124
  show sk_S _ _ _ _ _ _ (.int _ :: _) _ _
  refine sk_S.iret (dd DX6_speak 69 rfl) rfl rfl ?_
  exact ⟨xp.tr x124, rfl⟩
set_option maxRecDepth 100000 in
set_option maxHeartbeats 1000000 in
theorem cV_sy_1_1_2 {l : Launch} {E : sk_V} {d : Nat} {h : sk_M} {m x : Int32} {t n dep : Nat} (hn : n + 3 ≤ 30) (hd : dep + 3 ≤ 30) (hV : voI h 1 m t n) : sk_K l E (d + 10) MX6_say [.ref 4, .int 12, .int (-1), .int x, .int (nI dep)] h (fun r h1 => tcQ h h1 n [11, 20, 10] 0 ∧ some (.int ((((x + nI t) - 4) * 2) - m)) = r) := by
  refine sk_K.of (by decide +kernel) (Nat.le_of_ble_eq_true rfl) ?_
  show sk_S l E (d + 10) _ 0 [some (.ref 4), some (.int 12), some (.int (-1)), some (.int x), some (.int (nI dep))] [] h _
  refine sk_S.iload_n (i := 1) (dd DX6_say_p1 0 rfl) rfl rfl ?_
  · refine sk_S.lookup (off := 129) (dd DX6_say_p1 1 rfl) (by decide) (by decide) (tgt := 130) (by decide) ?_
    refine sk_S.aload_n (i := 0) (dd DX6_say_p1 17 rfl) rfl rfl ?_
    refine sk_S.aload_n (i := 0) (dd DX6_say_p1 18 rfl) rfl rfl ?_
    refine sk_S.geti (dd DX6_say_p1 19 rfl) rfl fX6_21 se_4 (by decide) rfl ?_
    refine sk_S.V 1 hV.1 ?_
    refine sk_S.iconst (v := 1) (dd DX6_say_p1 20 rfl) (by decide) ?_
    refine sk_S.iload_n (i := 3) (dd DX6_say_p1 21 rfl) rfl rfl ?_
    refine sk_S.iload (i := 4) (dd DX6_say_p1 22 rfl) rfl ?_
    refine sk_S.callV (dd DX6_say_p1 23 rfl) rfl kX6_36 (cV_sp_1_1_1 (x := x) (by omega) (by omega) hV) se_4 (by decide) rfl rfl rfl rfl (Nat.le_of_ble_eq_true rfl) (fun r139 h139 q139 => ?_)
    obtain ⟨x139, rfl⟩ := q139
    show sk_S _ _ _ _ _ _ (.int _ :: _) _ _
    refine sk_S.aload_n (i := 0) (dd DX6_say_p1 24 rfl) rfl rfl ?_
    refine sk_S.geti (dd DX6_say_p1 25 rfl) rfl fX6_25 se_4 (by decide) rfl ?_
    refine sk_S.V m ((x139.2.2.2.1 5 (by decide) (by decide)).trans hV.2.2.1) ?_
    refine sk_S.isub (dd DX6_say_p1 26 rfl) ?_
    refine sk_S.iret (dd DX6_say_p1 27 rfl) rfl rfl ?_
    exact ⟨x139, rfl⟩
set_option maxRecDepth 100000 in
set_option maxHeartbeats 1000000 in
theorem cV_sp_1_1_2 {l : Launch} {E : sk_V} {d : Nat} {h : sk_M} {m x : Int32} {t n dep : Nat} (hn : n + 4 ≤ 30) (hd : dep + 4 ≤ 30) (hV : voI h 1 m t n) : sk_K l E (d + 11) MX6_speak [.ref 4, .int 1, .int 2, .int x, .int (nI dep)] h (fun r h1 => tcQ h h1 n [12, 11, 20, 10] 0 ∧ some (.int ((((x + nI t) - 4) * 2) - m)) = r) := by
  refine sk_K.of (by decide +kernel) (Nat.le_of_ble_eq_true rfl) ?_
  show sk_S l E (d + 11) _ 0 [some (.ref 4), some (.int 1), some (.int 2), some (.int x), some (.int (nI dep)), none, none] [] h _
  refine sk_S.aload_n (i := 0) (dd DX6_speak 0 rfl) rfl rfl ?_
  refine sk_S.geti (dd DX6_speak 1 rfl) rfl fX6_32 se_4 (by decide) rfl ?_
  refine sk_S.if_eq (tgt := 9) (dd DX6_speak 2 rfl) (by decide) (fun c4 => ?_) (fun c4 => absurd hV.2.2.2.1 c4)
  refine sk_S.iload_n (i := 1) (dd DX6_speak 5 rfl) rfl rfl ?_
  refine sk_S.istore (i := 5) (dd DX6_speak 6 rfl) (Nat.le_of_ble_eq_true rfl) rfl ?_
  refine sk_S.iconst (v := 0) (dd DX6_speak 7 rfl) (by decide) ?_
  refine sk_S.istore (i := 6) (dd DX6_speak 8 rfl) (Nat.le_of_ble_eq_true rfl) rfl ?_
  refine sk_S.iload (i := 6) (dd DX6_speak 9 rfl) rfl ?_
  refine sk_S.bipush (v := 7) (dd DX6_speak 10 rfl) (by decide) ?_
  refine sk_S.icmp_ge (tgt := 54) (dd DX6_speak 11 rfl) (by decide) (fun c19 => absurd c19 (by decide)) (fun c19 => ?_)
  refine sk_S.iload (i := 5) (dd DX6_speak 12 rfl) rfl ?_
  refine sk_S.if_le (tgt := 54) (dd DX6_speak 13 rfl) (by decide) (fun c24 => absurd c24 (by decide)) (fun c24 => ?_)
  refine sk_S.gets (dd DX6_speak 14 rfl) rfl gsX6_40 ?_
  refine sk_S.iload (i := 5) (dd DX6_speak 15 rfl) rfl ?_
  refine sk_S.iconst (v := 4) (dd DX6_speak 16 rfl) (by decide) ?_
  refine sk_S.imul (dd DX6_speak 17 rfl) ?_
  refine sk_S.iload_n (i := 2) (dd DX6_speak 18 rfl) rfl rfl ?_
  refine sk_S.iadd (dd DX6_speak 19 rfl) ?_
  refine sk_S.roald (dd DX6_speak 20 rfl) rfl (j := 6) ⟨by decide, by decide, by decide⟩ rfl ?_
  refine sk_S.if_ne (tgt := 54) (dd DX6_speak 21 rfl) (by decide) (fun c37 => absurd (by decide) c37) (fun c37 => ?_)
  refine sk_S.gets (dd DX6_speak 22 rfl) rfl gsX6_43 ?_
  refine sk_S.iload (i := 5) (dd DX6_speak 23 rfl) rfl ?_
  refine sk_S.roald (dd DX6_speak 24 rfl) rfl (j := 1) ⟨by decide, by decide, by decide⟩ rfl ?_
  refine sk_S.istore (i := 5) (dd DX6_speak 25 rfl) (Nat.le_of_ble_eq_true rfl) rfl ?_
  refine sk_S.iinc (i := 6) (v := _ + 1) (dd DX6_speak 26 rfl) rfl rfl rfl ?_
  refine sk_S.goto (tgt := 15) (dd DX6_speak 27 rfl) (by decide) ?_
  refine sk_S.iload (i := 6) (dd DX6_speak 9 rfl) rfl ?_
  refine sk_S.bipush (v := 7) (dd DX6_speak 10 rfl) (by decide) ?_
  refine sk_S.icmp_ge (tgt := 54) (dd DX6_speak 11 rfl) (by decide) (fun c19 => absurd c19 (by decide)) (fun c19 => ?_)
  refine sk_S.iload (i := 5) (dd DX6_speak 12 rfl) rfl ?_
  refine sk_S.if_le (tgt := 54) (dd DX6_speak 13 rfl) (by decide) (fun c24 => ?_) (fun c24 => absurd (by decide) c24)
  refine sk_S.iload (i := 5) (dd DX6_speak 28 rfl) rfl ?_
  refine sk_S.if_lt (tgt := 66) (dd DX6_speak 29 rfl) (by decide) (fun c56 => absurd c56 (by decide)) (fun c56 => ?_)
  refine sk_S.iload (i := 4) (dd DX6_speak 30 rfl) rfl ?_
  refine sk_S.bipush (v := 30) (dd DX6_speak 31 rfl) (by decide) ?_
  refine sk_S.icmp_le (tgt := 68) (dd DX6_speak 32 rfl) (by decide) (fun c63 => ?_) (fun c63 => absurd (nI_le (b := 30) (by omega) (by decide)) c63)
  refine sk_S.gets (dd DX6_speak 35 rfl) rfl gsX6_40 ?_
  refine sk_S.iload (i := 5) (dd DX6_speak 36 rfl) rfl ?_
  refine sk_S.iconst (v := 4) (dd DX6_speak 37 rfl) (by decide) ?_
  refine sk_S.imul (dd DX6_speak 38 rfl) ?_
  refine sk_S.iload_n (i := 2) (dd DX6_speak 39 rfl) rfl rfl ?_
  refine sk_S.iadd (dd DX6_speak 40 rfl) ?_
  refine sk_S.roald (dd DX6_speak 41 rfl) rfl (j := 2) ⟨by decide, by decide, by decide⟩ rfl ?_
  refine sk_S.istore (i := 6) (dd DX6_speak 42 rfl) (Nat.le_of_ble_eq_true rfl) rfl ?_
  refine sk_S.aload_n (i := 0) (dd DX6_speak 43 rfl) rfl rfl ?_
  refine sk_S.geti (dd DX6_speak 44 rfl) rfl fX6_29 se_4 (by decide) rfl ?_
  refine sk_S.bipush (v := 30) (dd DX6_speak 45 rfl) (by decide) ?_
  refine sk_S.icmp_ge (tgt := 110) (dd DX6_speak 46 rfl) (by decide) (fun c86 => absurd c86 (by rw [hV.2.2.2.2]; exact nI_ge (b := 30) (by omega) (by decide))) (fun c86 => ?_)
  refine sk_S.aload_n (i := 0) (dd DX6_speak 47 rfl) rfl rfl ?_
  refine sk_S.getr (dd DX6_speak 48 rfl) rfl fX6_9 se_4 (by decide) rfl ?_
  refine sk_S.aload_n (i := 0) (dd DX6_speak 49 rfl) rfl rfl ?_
  refine sk_S.geti (dd DX6_speak 50 rfl) rfl fX6_29 se_4 (by decide) rfl ?_
  refine sk_S.iload (i := 6) (dd DX6_speak 51 rfl) rfl ?_
  refine sk_S.iast (dd DX6_speak 52 rfl) se_17 (sk_ix_nI (k := n) hV.2.2.2.2 (by omega) (by decide)) ?_
  refine sk_S.aload_n (i := 0) (dd DX6_speak 53 rfl) rfl rfl ?_
  refine sk_S.dup (dd DX6_speak 54 rfl) rfl ?_
  refine sk_S.geti (dd DX6_speak 55 rfl) rfl fX6_29 se_4 (by decide) rfl ?_
  refine sk_S.iconst (v := 1) (dd DX6_speak 56 rfl) (by decide) ?_
  refine sk_S.iadd (dd DX6_speak 57 rfl) ?_
  refine sk_S.putf (dd DX6_speak 58 rfl) rfl pX6_29 se_4 (by decide) rfl rfl rfl ?_
  have xp := pshC (b := 12) hV.2.2.2.2 hV.2.2.2.1
  have hV2 := hV.up xp
  refine sk_S.aload_n (i := 0) (dd DX6_speak 59 rfl) rfl rfl ?_
  refine sk_S.iload (i := 6) (dd DX6_speak 60 rfl) rfl ?_
  refine sk_S.gets (dd DX6_speak 61 rfl) rfl gsX6_43 ?_
  refine sk_S.iload (i := 5) (dd DX6_speak 62 rfl) rfl ?_
  refine sk_S.roald (dd DX6_speak 63 rfl) rfl (j := 0) ⟨by decide, by decide, by decide⟩ rfl ?_
  refine sk_S.iload_n (i := 3) (dd DX6_speak 64 rfl) rfl rfl ?_
  refine sk_S.iload (i := 4) (dd DX6_speak 65 rfl) rfl ?_
  refine sk_S.iconst (v := 1) (dd DX6_speak 66 rfl) (by decide) ?_
  refine sk_S.iadd (dd DX6_speak 67 rfl) ?_
  refine sk_S.V (nI (dep + 1)) (nI_1 dep) ?_
  refine sk_S.callV (dd DX6_speak 68 rfl) rfl kX6_46 (cV_sy_1_1_2 (by simp only [List.length_cons, List.length_nil]; omega) (by omega) hV2) se_4 (by decide) rfl rfl rfl rfl (Nat.le_of_ble_eq_true rfl) (fun r124 h124 q124 => ?_)
  obtain ⟨x124, rfl⟩ := q124
  show sk_S _ _ _ _ _ _ (.int _ :: _) _ _
  refine sk_S.iret (dd DX6_speak 69 rfl) rfl rfl ?_
  exact ⟨xp.tr x124, rfl⟩
set_option maxRecDepth 100000 in
set_option maxHeartbeats 1000000 in
theorem cV_sy_1_0_3 {l : Launch} {E : sk_V} {d : Nat} {h : sk_M} {m x : Int32} {t n dep : Nat} (hn : n + 0 ≤ 30) (hd : dep + 0 ≤ 30) (hV : voI h 1 m t n) (hp : ¬ m - nI t = 0) : sk_K l E (d + 2) MX6_say [.ref 4, .int 13, .int (-1), .int x, .int (nI dep)] h (fun r h1 => tcQ h h1 n [] 0 ∧ some (.int (x / (m - nI t))) = r) := by
  refine sk_K.of (by decide +kernel) (Nat.le_of_ble_eq_true rfl) ?_
  show sk_S l E (d + 2) _ 0 [some (.ref 4), some (.int 13), some (.int (-1)), some (.int x), some (.int (nI dep))] [] h _
  refine sk_S.iload_n (i := 1) (dd DX6_say_p1 0 rfl) rfl rfl ?_
  · refine sk_S.lookup (off := 147) (dd DX6_say_p1 1 rfl) (by decide) (by decide) (tgt := 148) (by decide) ?_
    refine sk_S.aload_n (i := 0) (dd DX6_say_p1 28 rfl) rfl rfl ?_
    refine sk_S.iload_n (i := 3) (dd DX6_say_p1 29 rfl) rfl rfl ?_
    refine sk_S.callV (dd DX6_say_p1 30 rfl) rfl kX6_49 (cV_part hV hp) se_4 (by decide) rfl rfl rfl rfl (Nat.le_of_ble_eq_true rfl) (fun r150 h150 q150 => ?_)
    obtain ⟨x150, rfl⟩ := q150
    show sk_S _ _ _ _ _ _ (.int _ :: _) _ _
    refine sk_S.iret (dd DX6_say_p1 31 rfl) rfl rfl ?_
    exact ⟨x150, rfl⟩
set_option maxRecDepth 100000 in
set_option maxHeartbeats 1000000 in
theorem cV_sp_1_0_3 {l : Launch} {E : sk_V} {d : Nat} {h : sk_M} {m x : Int32} {t n dep : Nat} (hn : n + 1 ≤ 30) (hd : dep + 1 ≤ 30) (hV : voI h 1 m t n) (hp : ¬ m - nI t = 0) : sk_K l E (d + 3) MX6_speak [.ref 4, .int 0, .int 3, .int x, .int (nI dep)] h (fun r h1 => tcQ h h1 n [13] 0 ∧ some (.int (x / (m - nI t))) = r) := by
  refine sk_K.of (by decide +kernel) (Nat.le_of_ble_eq_true rfl) ?_
  show sk_S l E (d + 3) _ 0 [some (.ref 4), some (.int 0), some (.int 3), some (.int x), some (.int (nI dep)), none, none] [] h _
  refine sk_S.aload_n (i := 0) (dd DX6_speak 0 rfl) rfl rfl ?_
  refine sk_S.geti (dd DX6_speak 1 rfl) rfl fX6_32 se_4 (by decide) rfl ?_
  refine sk_S.if_eq (tgt := 9) (dd DX6_speak 2 rfl) (by decide) (fun c4 => ?_) (fun c4 => absurd hV.2.2.2.1 c4)
  refine sk_S.iload_n (i := 1) (dd DX6_speak 5 rfl) rfl rfl ?_
  refine sk_S.istore (i := 5) (dd DX6_speak 6 rfl) (Nat.le_of_ble_eq_true rfl) rfl ?_
  refine sk_S.iconst (v := 0) (dd DX6_speak 7 rfl) (by decide) ?_
  refine sk_S.istore (i := 6) (dd DX6_speak 8 rfl) (Nat.le_of_ble_eq_true rfl) rfl ?_
  refine sk_S.iload (i := 6) (dd DX6_speak 9 rfl) rfl ?_
  refine sk_S.bipush (v := 7) (dd DX6_speak 10 rfl) (by decide) ?_
  refine sk_S.icmp_ge (tgt := 54) (dd DX6_speak 11 rfl) (by decide) (fun c19 => absurd c19 (by decide)) (fun c19 => ?_)
  refine sk_S.iload (i := 5) (dd DX6_speak 12 rfl) rfl ?_
  refine sk_S.if_le (tgt := 54) (dd DX6_speak 13 rfl) (by decide) (fun c24 => ?_) (fun c24 => absurd (by decide) c24)
  refine sk_S.iload (i := 5) (dd DX6_speak 28 rfl) rfl ?_
  refine sk_S.if_lt (tgt := 66) (dd DX6_speak 29 rfl) (by decide) (fun c56 => absurd c56 (by decide)) (fun c56 => ?_)
  refine sk_S.iload (i := 4) (dd DX6_speak 30 rfl) rfl ?_
  refine sk_S.bipush (v := 30) (dd DX6_speak 31 rfl) (by decide) ?_
  refine sk_S.icmp_le (tgt := 68) (dd DX6_speak 32 rfl) (by decide) (fun c63 => ?_) (fun c63 => absurd (nI_le (b := 30) (by omega) (by decide)) c63)
  refine sk_S.gets (dd DX6_speak 35 rfl) rfl gsX6_40 ?_
  refine sk_S.iload (i := 5) (dd DX6_speak 36 rfl) rfl ?_
  refine sk_S.iconst (v := 4) (dd DX6_speak 37 rfl) (by decide) ?_
  refine sk_S.imul (dd DX6_speak 38 rfl) ?_
  refine sk_S.iload_n (i := 2) (dd DX6_speak 39 rfl) rfl rfl ?_
  refine sk_S.iadd (dd DX6_speak 40 rfl) ?_
  refine sk_S.roald (dd DX6_speak 41 rfl) rfl (j := 3) ⟨by decide, by decide, by decide⟩ rfl ?_
  refine sk_S.istore (i := 6) (dd DX6_speak 42 rfl) (Nat.le_of_ble_eq_true rfl) rfl ?_
  refine sk_S.aload_n (i := 0) (dd DX6_speak 43 rfl) rfl rfl ?_
  refine sk_S.geti (dd DX6_speak 44 rfl) rfl fX6_29 se_4 (by decide) rfl ?_
  refine sk_S.bipush (v := 30) (dd DX6_speak 45 rfl) (by decide) ?_
  refine sk_S.icmp_ge (tgt := 110) (dd DX6_speak 46 rfl) (by decide) (fun c86 => absurd c86 (by rw [hV.2.2.2.2]; exact nI_ge (b := 30) (by omega) (by decide))) (fun c86 => ?_)
  refine sk_S.aload_n (i := 0) (dd DX6_speak 47 rfl) rfl rfl ?_
  refine sk_S.getr (dd DX6_speak 48 rfl) rfl fX6_9 se_4 (by decide) rfl ?_
  refine sk_S.aload_n (i := 0) (dd DX6_speak 49 rfl) rfl rfl ?_
  refine sk_S.geti (dd DX6_speak 50 rfl) rfl fX6_29 se_4 (by decide) rfl ?_
  refine sk_S.iload (i := 6) (dd DX6_speak 51 rfl) rfl ?_
  refine sk_S.iast (dd DX6_speak 52 rfl) se_17 (sk_ix_nI (k := n) hV.2.2.2.2 (by omega) (by decide)) ?_
  refine sk_S.aload_n (i := 0) (dd DX6_speak 53 rfl) rfl rfl ?_
  refine sk_S.dup (dd DX6_speak 54 rfl) rfl ?_
  refine sk_S.geti (dd DX6_speak 55 rfl) rfl fX6_29 se_4 (by decide) rfl ?_
  refine sk_S.iconst (v := 1) (dd DX6_speak 56 rfl) (by decide) ?_
  refine sk_S.iadd (dd DX6_speak 57 rfl) ?_
  refine sk_S.putf (dd DX6_speak 58 rfl) rfl pX6_29 se_4 (by decide) rfl rfl rfl ?_
  have xp := pshC (b := 13) hV.2.2.2.2 hV.2.2.2.1
  have hV2 := hV.up xp
  refine sk_S.aload_n (i := 0) (dd DX6_speak 59 rfl) rfl rfl ?_
  refine sk_S.iload (i := 6) (dd DX6_speak 60 rfl) rfl ?_
  refine sk_S.gets (dd DX6_speak 61 rfl) rfl gsX6_43 ?_
  refine sk_S.iload (i := 5) (dd DX6_speak 62 rfl) rfl ?_
  refine sk_S.roald (dd DX6_speak 63 rfl) rfl (j := 0) ⟨by decide, by decide, by decide⟩ rfl ?_
  refine sk_S.iload_n (i := 3) (dd DX6_speak 64 rfl) rfl rfl ?_
  refine sk_S.iload (i := 4) (dd DX6_speak 65 rfl) rfl ?_
  refine sk_S.iconst (v := 1) (dd DX6_speak 66 rfl) (by decide) ?_
  refine sk_S.iadd (dd DX6_speak 67 rfl) ?_
  refine sk_S.V (nI (dep + 1)) (nI_1 dep) ?_
  refine sk_S.callV (dd DX6_speak 68 rfl) rfl kX6_46 (cV_sy_1_0_3 (by simp only [List.length_cons, List.length_nil]; omega) (by omega) hV2 hp) se_4 (by decide) rfl rfl rfl rfl (Nat.le_of_ble_eq_true rfl) (fun r124 h124 q124 => ?_)
  obtain ⟨x124, rfl⟩ := q124
  show sk_S _ _ _ _ _ _ (.int _ :: _) _ _
  refine sk_S.iret (dd DX6_speak 69 rfl) rfl rfl ?_
  exact ⟨xp.tr x124, rfl⟩
set_option maxRecDepth 100000 in
set_option maxHeartbeats 1000000 in
theorem cV_sy_1_1_3 {l : Launch} {E : sk_V} {d : Nat} {h : sk_M} {m x : Int32} {t n dep : Nat} (hn : n + 4 ≤ 30) (hd : dep + 4 ≤ 30) (hV : voI h 1 m t n) (hp : ¬ m - nI t = 0) : sk_K l E (d + 10) MX6_say [.ref 4, .int 21, .int 0, .int x, .int (nI dep)] h (fun r h1 => tcQ h h1 n [13, 11, 20, 10] 0 ∧ some (.int ((x / (m - nI t)) + (((1 + nI t) - 4) * 2))) = r) := by
  refine sk_K.of (by decide +kernel) (Nat.le_of_ble_eq_true rfl) ?_
  show sk_S l E (d + 10) _ 0 [some (.ref 4), some (.int 21), some (.int 0), some (.int x), some (.int (nI dep))] [] h _
  refine sk_S.iload_n (i := 1) (dd DX6_say_p1 0 rfl) rfl rfl ?_
  · refine sk_S.lookup (off := 165) (dd DX6_say_p1 1 rfl) (by decide) (by decide) (tgt := 166) (by decide) ?_
    refine sk_S.aload_n (i := 0) (dd DX6_say_p1 41 rfl) rfl rfl ?_
    refine sk_S.iload_n (i := 2) (dd DX6_say_p1 42 rfl) rfl rfl ?_
    refine sk_S.iconst (v := 3) (dd DX6_say_p1 43 rfl) (by decide) ?_
    refine sk_S.iload_n (i := 3) (dd DX6_say_p1 44 rfl) rfl rfl ?_
    refine sk_S.iload (i := 4) (dd DX6_say_p1 45 rfl) rfl ?_
    refine sk_S.callV (dd DX6_say_p1 46 rfl) rfl kX6_36 (cV_sp_1_0_3 (x := x) (by omega) (by omega) hV hp) se_4 (by decide) rfl rfl rfl rfl (Nat.le_of_ble_eq_true rfl) (fun r172 h172 q172 => ?_)
    obtain ⟨x172, rfl⟩ := q172
    show sk_S _ _ _ _ _ _ (.int _ :: _) _ _
    refine sk_S.aload_n (i := 0) (dd DX6_say_p1 47 rfl) rfl rfl ?_
    refine sk_S.aload_n (i := 0) (dd DX6_say_p1 48 rfl) rfl rfl ?_
    refine sk_S.geti (dd DX6_say_p1 49 rfl) rfl fX6_21 se_4 (by decide) rfl ?_
    refine sk_S.V 1 ((x172.2.2.2.1 3 (by decide) (by decide)).trans hV.1) ?_
    refine sk_S.iconst (v := 1) (dd DX6_say_p1 50 rfl) (by decide) ?_
    refine sk_S.iconst (v := 1) (dd DX6_say_p1 51 rfl) (by decide) ?_
    refine sk_S.iload (i := 4) (dd DX6_say_p1 52 rfl) rfl ?_
    refine sk_S.callV (dd DX6_say_p1 53 rfl) rfl kX6_36 (cV_sp_1_1_1 (x := 1) (by omega) (by omega) (hV.up x172)) se_4 (by decide) rfl rfl rfl rfl (Nat.le_of_ble_eq_true rfl) (fun r184 h184 q184 => ?_)
    obtain ⟨x184, rfl⟩ := q184
    show sk_S _ _ _ _ _ _ (.int _ :: _) _ _
    refine sk_S.iadd (dd DX6_say_p1 54 rfl) ?_
    refine sk_S.iret (dd DX6_say_p1 55 rfl) rfl rfl ?_
    exact ⟨x172.tr x184, rfl⟩
set_option maxRecDepth 100000 in
set_option maxHeartbeats 1000000 in
theorem cV_sp_1_1_3 {l : Launch} {E : sk_V} {d : Nat} {h : sk_M} {m x : Int32} {t n dep : Nat} (hn : n + 5 ≤ 30) (hd : dep + 5 ≤ 30) (hV : voI h 1 m t n) (hp : ¬ m - nI t = 0) : sk_K l E (d + 11) MX6_speak [.ref 4, .int 1, .int 3, .int x, .int (nI dep)] h (fun r h1 => tcQ h h1 n [21, 13, 11, 20, 10] 0 ∧ some (.int ((x / (m - nI t)) + (((1 + nI t) - 4) * 2))) = r) := by
  refine sk_K.of (by decide +kernel) (Nat.le_of_ble_eq_true rfl) ?_
  show sk_S l E (d + 11) _ 0 [some (.ref 4), some (.int 1), some (.int 3), some (.int x), some (.int (nI dep)), none, none] [] h _
  refine sk_S.aload_n (i := 0) (dd DX6_speak 0 rfl) rfl rfl ?_
  refine sk_S.geti (dd DX6_speak 1 rfl) rfl fX6_32 se_4 (by decide) rfl ?_
  refine sk_S.if_eq (tgt := 9) (dd DX6_speak 2 rfl) (by decide) (fun c4 => ?_) (fun c4 => absurd hV.2.2.2.1 c4)
  refine sk_S.iload_n (i := 1) (dd DX6_speak 5 rfl) rfl rfl ?_
  refine sk_S.istore (i := 5) (dd DX6_speak 6 rfl) (Nat.le_of_ble_eq_true rfl) rfl ?_
  refine sk_S.iconst (v := 0) (dd DX6_speak 7 rfl) (by decide) ?_
  refine sk_S.istore (i := 6) (dd DX6_speak 8 rfl) (Nat.le_of_ble_eq_true rfl) rfl ?_
  refine sk_S.iload (i := 6) (dd DX6_speak 9 rfl) rfl ?_
  refine sk_S.bipush (v := 7) (dd DX6_speak 10 rfl) (by decide) ?_
  refine sk_S.icmp_ge (tgt := 54) (dd DX6_speak 11 rfl) (by decide) (fun c19 => absurd c19 (by decide)) (fun c19 => ?_)
  refine sk_S.iload (i := 5) (dd DX6_speak 12 rfl) rfl ?_
  refine sk_S.if_le (tgt := 54) (dd DX6_speak 13 rfl) (by decide) (fun c24 => absurd c24 (by decide)) (fun c24 => ?_)
  refine sk_S.gets (dd DX6_speak 14 rfl) rfl gsX6_40 ?_
  refine sk_S.iload (i := 5) (dd DX6_speak 15 rfl) rfl ?_
  refine sk_S.iconst (v := 4) (dd DX6_speak 16 rfl) (by decide) ?_
  refine sk_S.imul (dd DX6_speak 17 rfl) ?_
  refine sk_S.iload_n (i := 2) (dd DX6_speak 18 rfl) rfl rfl ?_
  refine sk_S.iadd (dd DX6_speak 19 rfl) ?_
  refine sk_S.roald (dd DX6_speak 20 rfl) rfl (j := 7) ⟨by decide, by decide, by decide⟩ rfl ?_
  refine sk_S.if_ne (tgt := 54) (dd DX6_speak 21 rfl) (by decide) (fun c37 => ?_) (fun c37 => absurd c37 (by decide))
  refine sk_S.iload (i := 5) (dd DX6_speak 28 rfl) rfl ?_
  refine sk_S.if_lt (tgt := 66) (dd DX6_speak 29 rfl) (by decide) (fun c56 => absurd c56 (by decide)) (fun c56 => ?_)
  refine sk_S.iload (i := 4) (dd DX6_speak 30 rfl) rfl ?_
  refine sk_S.bipush (v := 30) (dd DX6_speak 31 rfl) (by decide) ?_
  refine sk_S.icmp_le (tgt := 68) (dd DX6_speak 32 rfl) (by decide) (fun c63 => ?_) (fun c63 => absurd (nI_le (b := 30) (by omega) (by decide)) c63)
  refine sk_S.gets (dd DX6_speak 35 rfl) rfl gsX6_40 ?_
  refine sk_S.iload (i := 5) (dd DX6_speak 36 rfl) rfl ?_
  refine sk_S.iconst (v := 4) (dd DX6_speak 37 rfl) (by decide) ?_
  refine sk_S.imul (dd DX6_speak 38 rfl) ?_
  refine sk_S.iload_n (i := 2) (dd DX6_speak 39 rfl) rfl rfl ?_
  refine sk_S.iadd (dd DX6_speak 40 rfl) ?_
  refine sk_S.roald (dd DX6_speak 41 rfl) rfl (j := 7) ⟨by decide, by decide, by decide⟩ rfl ?_
  refine sk_S.istore (i := 6) (dd DX6_speak 42 rfl) (Nat.le_of_ble_eq_true rfl) rfl ?_
  refine sk_S.aload_n (i := 0) (dd DX6_speak 43 rfl) rfl rfl ?_
  refine sk_S.geti (dd DX6_speak 44 rfl) rfl fX6_29 se_4 (by decide) rfl ?_
  refine sk_S.bipush (v := 30) (dd DX6_speak 45 rfl) (by decide) ?_
  refine sk_S.icmp_ge (tgt := 110) (dd DX6_speak 46 rfl) (by decide) (fun c86 => absurd c86 (by rw [hV.2.2.2.2]; exact nI_ge (b := 30) (by omega) (by decide))) (fun c86 => ?_)
  refine sk_S.aload_n (i := 0) (dd DX6_speak 47 rfl) rfl rfl ?_
  refine sk_S.getr (dd DX6_speak 48 rfl) rfl fX6_9 se_4 (by decide) rfl ?_
  refine sk_S.aload_n (i := 0) (dd DX6_speak 49 rfl) rfl rfl ?_
  refine sk_S.geti (dd DX6_speak 50 rfl) rfl fX6_29 se_4 (by decide) rfl ?_
  refine sk_S.iload (i := 6) (dd DX6_speak 51 rfl) rfl ?_
  refine sk_S.iast (dd DX6_speak 52 rfl) se_17 (sk_ix_nI (k := n) hV.2.2.2.2 (by omega) (by decide)) ?_
  refine sk_S.aload_n (i := 0) (dd DX6_speak 53 rfl) rfl rfl ?_
  refine sk_S.dup (dd DX6_speak 54 rfl) rfl ?_
  refine sk_S.geti (dd DX6_speak 55 rfl) rfl fX6_29 se_4 (by decide) rfl ?_
  refine sk_S.iconst (v := 1) (dd DX6_speak 56 rfl) (by decide) ?_
  refine sk_S.iadd (dd DX6_speak 57 rfl) ?_
  refine sk_S.putf (dd DX6_speak 58 rfl) rfl pX6_29 se_4 (by decide) rfl rfl rfl ?_
  have xp := pshC (b := 21) hV.2.2.2.2 hV.2.2.2.1
  have hV2 := hV.up xp
  refine sk_S.aload_n (i := 0) (dd DX6_speak 59 rfl) rfl rfl ?_
  refine sk_S.iload (i := 6) (dd DX6_speak 60 rfl) rfl ?_
  refine sk_S.gets (dd DX6_speak 61 rfl) rfl gsX6_43 ?_
  refine sk_S.iload (i := 5) (dd DX6_speak 62 rfl) rfl ?_
  refine sk_S.roald (dd DX6_speak 63 rfl) rfl (j := 1) ⟨by decide, by decide, by decide⟩ rfl ?_
  refine sk_S.iload_n (i := 3) (dd DX6_speak 64 rfl) rfl rfl ?_
  refine sk_S.iload (i := 4) (dd DX6_speak 65 rfl) rfl ?_
  refine sk_S.iconst (v := 1) (dd DX6_speak 66 rfl) (by decide) ?_
  refine sk_S.iadd (dd DX6_speak 67 rfl) ?_
  refine sk_S.V (nI (dep + 1)) (nI_1 dep) ?_
  refine sk_S.callV (dd DX6_speak 68 rfl) rfl kX6_46 (cV_sy_1_1_3 (by simp only [List.length_cons, List.length_nil]; omega) (by omega) hV2 hp) se_4 (by decide) rfl rfl rfl rfl (Nat.le_of_ble_eq_true rfl) (fun r124 h124 q124 => ?_)
  obtain ⟨x124, rfl⟩ := q124
  show sk_S _ _ _ _ _ _ (.int _ :: _) _ _
  refine sk_S.iret (dd DX6_speak 69 rfl) rfl rfl ?_
  exact ⟨xp.tr x124, rfl⟩
set_option maxRecDepth 100000 in
set_option maxHeartbeats 1000000 in
theorem cV_sy_1_0_3p {l : Launch} {E : sk_V} {d : Nat} {h : sk_M} {m x : Int32} {t n dep : Nat} (hn : n + 0 ≤ 30) (hd : dep + 0 ≤ 30) (hV : voI h 1 m t n) (hp : m - nI t = 0) : sk_K l E (d + 2) MX6_say [.ref 4, .int 13, .int (-1), .int x, .int (nI dep)] h (fun r h1 => tcQ h h1 n [] 1 ∧ some (.int (0 : Int32)) = r) := by
  refine sk_K.of (by decide +kernel) (Nat.le_of_ble_eq_true rfl) ?_
  show sk_S l E (d + 2) _ 0 [some (.ref 4), some (.int 13), some (.int (-1)), some (.int x), some (.int (nI dep))] [] h _
  refine sk_S.iload_n (i := 1) (dd DX6_say_p1 0 rfl) rfl rfl ?_
  · refine sk_S.lookup (off := 147) (dd DX6_say_p1 1 rfl) (by decide) (by decide) (tgt := 148) (by decide) ?_
    refine sk_S.aload_n (i := 0) (dd DX6_say_p1 28 rfl) rfl rfl ?_
    refine sk_S.iload_n (i := 3) (dd DX6_say_p1 29 rfl) rfl rfl ?_
    refine sk_S.callV (dd DX6_say_p1 30 rfl) rfl kX6_49 (cV_partP hV hp) se_4 (by decide) rfl rfl rfl rfl (Nat.le_of_ble_eq_true rfl) (fun r150 h150 q150 => ?_)
    obtain ⟨x150, rfl⟩ := q150
    show sk_S _ _ _ _ _ _ (.int _ :: _) _ _
    refine sk_S.iret (dd DX6_say_p1 31 rfl) rfl rfl ?_
    exact ⟨x150, rfl⟩
set_option maxRecDepth 100000 in
set_option maxHeartbeats 1000000 in
theorem cV_sp_1_0_3p {l : Launch} {E : sk_V} {d : Nat} {h : sk_M} {m x : Int32} {t n dep : Nat} (hn : n + 1 ≤ 30) (hd : dep + 1 ≤ 30) (hV : voI h 1 m t n) (hp : m - nI t = 0) : sk_K l E (d + 3) MX6_speak [.ref 4, .int 0, .int 3, .int x, .int (nI dep)] h (fun r h1 => tcQ h h1 n [13] 1 ∧ some (.int (0 : Int32)) = r) := by
  refine sk_K.of (by decide +kernel) (Nat.le_of_ble_eq_true rfl) ?_
  show sk_S l E (d + 3) _ 0 [some (.ref 4), some (.int 0), some (.int 3), some (.int x), some (.int (nI dep)), none, none] [] h _
  refine sk_S.aload_n (i := 0) (dd DX6_speak 0 rfl) rfl rfl ?_
  refine sk_S.geti (dd DX6_speak 1 rfl) rfl fX6_32 se_4 (by decide) rfl ?_
  refine sk_S.if_eq (tgt := 9) (dd DX6_speak 2 rfl) (by decide) (fun c4 => ?_) (fun c4 => absurd hV.2.2.2.1 c4)
  refine sk_S.iload_n (i := 1) (dd DX6_speak 5 rfl) rfl rfl ?_
  refine sk_S.istore (i := 5) (dd DX6_speak 6 rfl) (Nat.le_of_ble_eq_true rfl) rfl ?_
  refine sk_S.iconst (v := 0) (dd DX6_speak 7 rfl) (by decide) ?_
  refine sk_S.istore (i := 6) (dd DX6_speak 8 rfl) (Nat.le_of_ble_eq_true rfl) rfl ?_
  refine sk_S.iload (i := 6) (dd DX6_speak 9 rfl) rfl ?_
  refine sk_S.bipush (v := 7) (dd DX6_speak 10 rfl) (by decide) ?_
  refine sk_S.icmp_ge (tgt := 54) (dd DX6_speak 11 rfl) (by decide) (fun c19 => absurd c19 (by decide)) (fun c19 => ?_)
  refine sk_S.iload (i := 5) (dd DX6_speak 12 rfl) rfl ?_
  refine sk_S.if_le (tgt := 54) (dd DX6_speak 13 rfl) (by decide) (fun c24 => ?_) (fun c24 => absurd (by decide) c24)
  refine sk_S.iload (i := 5) (dd DX6_speak 28 rfl) rfl ?_
  refine sk_S.if_lt (tgt := 66) (dd DX6_speak 29 rfl) (by decide) (fun c56 => absurd c56 (by decide)) (fun c56 => ?_)
  refine sk_S.iload (i := 4) (dd DX6_speak 30 rfl) rfl ?_
  refine sk_S.bipush (v := 30) (dd DX6_speak 31 rfl) (by decide) ?_
  refine sk_S.icmp_le (tgt := 68) (dd DX6_speak 32 rfl) (by decide) (fun c63 => ?_) (fun c63 => absurd (nI_le (b := 30) (by omega) (by decide)) c63)
  refine sk_S.gets (dd DX6_speak 35 rfl) rfl gsX6_40 ?_
  refine sk_S.iload (i := 5) (dd DX6_speak 36 rfl) rfl ?_
  refine sk_S.iconst (v := 4) (dd DX6_speak 37 rfl) (by decide) ?_
  refine sk_S.imul (dd DX6_speak 38 rfl) ?_
  refine sk_S.iload_n (i := 2) (dd DX6_speak 39 rfl) rfl rfl ?_
  refine sk_S.iadd (dd DX6_speak 40 rfl) ?_
  refine sk_S.roald (dd DX6_speak 41 rfl) rfl (j := 3) ⟨by decide, by decide, by decide⟩ rfl ?_
  refine sk_S.istore (i := 6) (dd DX6_speak 42 rfl) (Nat.le_of_ble_eq_true rfl) rfl ?_
  refine sk_S.aload_n (i := 0) (dd DX6_speak 43 rfl) rfl rfl ?_
  refine sk_S.geti (dd DX6_speak 44 rfl) rfl fX6_29 se_4 (by decide) rfl ?_
  refine sk_S.bipush (v := 30) (dd DX6_speak 45 rfl) (by decide) ?_
  refine sk_S.icmp_ge (tgt := 110) (dd DX6_speak 46 rfl) (by decide) (fun c86 => absurd c86 (by rw [hV.2.2.2.2]; exact nI_ge (b := 30) (by omega) (by decide))) (fun c86 => ?_)
  refine sk_S.aload_n (i := 0) (dd DX6_speak 47 rfl) rfl rfl ?_
  refine sk_S.getr (dd DX6_speak 48 rfl) rfl fX6_9 se_4 (by decide) rfl ?_
  refine sk_S.aload_n (i := 0) (dd DX6_speak 49 rfl) rfl rfl ?_
  refine sk_S.geti (dd DX6_speak 50 rfl) rfl fX6_29 se_4 (by decide) rfl ?_
  refine sk_S.iload (i := 6) (dd DX6_speak 51 rfl) rfl ?_
  refine sk_S.iast (dd DX6_speak 52 rfl) se_17 (sk_ix_nI (k := n) hV.2.2.2.2 (by omega) (by decide)) ?_
  refine sk_S.aload_n (i := 0) (dd DX6_speak 53 rfl) rfl rfl ?_
  refine sk_S.dup (dd DX6_speak 54 rfl) rfl ?_
  refine sk_S.geti (dd DX6_speak 55 rfl) rfl fX6_29 se_4 (by decide) rfl ?_
  refine sk_S.iconst (v := 1) (dd DX6_speak 56 rfl) (by decide) ?_
  refine sk_S.iadd (dd DX6_speak 57 rfl) ?_
  refine sk_S.putf (dd DX6_speak 58 rfl) rfl pX6_29 se_4 (by decide) rfl rfl rfl ?_
  have xp := pshC (b := 13) hV.2.2.2.2 hV.2.2.2.1
  have hV2 := hV.up xp
  refine sk_S.aload_n (i := 0) (dd DX6_speak 59 rfl) rfl rfl ?_
  refine sk_S.iload (i := 6) (dd DX6_speak 60 rfl) rfl ?_
  refine sk_S.gets (dd DX6_speak 61 rfl) rfl gsX6_43 ?_
  refine sk_S.iload (i := 5) (dd DX6_speak 62 rfl) rfl ?_
  refine sk_S.roald (dd DX6_speak 63 rfl) rfl (j := 0) ⟨by decide, by decide, by decide⟩ rfl ?_
  refine sk_S.iload_n (i := 3) (dd DX6_speak 64 rfl) rfl rfl ?_
  refine sk_S.iload (i := 4) (dd DX6_speak 65 rfl) rfl ?_
  refine sk_S.iconst (v := 1) (dd DX6_speak 66 rfl) (by decide) ?_
  refine sk_S.iadd (dd DX6_speak 67 rfl) ?_
  refine sk_S.V (nI (dep + 1)) (nI_1 dep) ?_
  refine sk_S.callV (dd DX6_speak 68 rfl) rfl kX6_46 (cV_sy_1_0_3p (by simp only [List.length_cons, List.length_nil]; omega) (by omega) hV2 hp) se_4 (by decide) rfl rfl rfl rfl (Nat.le_of_ble_eq_true rfl) (fun r124 h124 q124 => ?_)
  obtain ⟨x124, rfl⟩ := q124
  show sk_S _ _ _ _ _ _ (.int _ :: _) _ _
  refine sk_S.iret (dd DX6_speak 69 rfl) rfl rfl ?_
  exact ⟨xp.tr x124, rfl⟩
set_option maxRecDepth 100000 in
set_option maxHeartbeats 1000000 in
theorem cV_sy_1_1_3p {l : Launch} {E : sk_V} {d : Nat} {h : sk_M} {m x : Int32} {t n dep : Nat} (hn : n + 1 ≤ 30) (hd : dep + 1 ≤ 30) (hV : voI h 1 m t n) (hp : m - nI t = 0) : sk_K l E (d + 5) MX6_say [.ref 4, .int 21, .int 0, .int x, .int (nI dep)] h (fun r h1 => tcQ h h1 n [13] 1 ∧ some (.int ((0 : Int32) + 0)) = r) := by
  refine sk_K.of (by decide +kernel) (Nat.le_of_ble_eq_true rfl) ?_
  show sk_S l E (d + 5) _ 0 [some (.ref 4), some (.int 21), some (.int 0), some (.int x), some (.int (nI dep))] [] h _
  refine sk_S.iload_n (i := 1) (dd DX6_say_p1 0 rfl) rfl rfl ?_
  · refine sk_S.lookup (off := 165) (dd DX6_say_p1 1 rfl) (by decide) (by decide) (tgt := 166) (by decide) ?_
    refine sk_S.aload_n (i := 0) (dd DX6_say_p1 41 rfl) rfl rfl ?_
    refine sk_S.iload_n (i := 2) (dd DX6_say_p1 42 rfl) rfl rfl ?_
    refine sk_S.iconst (v := 3) (dd DX6_say_p1 43 rfl) (by decide) ?_
    refine sk_S.iload_n (i := 3) (dd DX6_say_p1 44 rfl) rfl rfl ?_
    refine sk_S.iload (i := 4) (dd DX6_say_p1 45 rfl) rfl ?_
    refine sk_S.callV (dd DX6_say_p1 46 rfl) rfl kX6_36 (cV_sp_1_0_3p (x := x) (by omega) (by omega) hV hp) se_4 (by decide) rfl rfl rfl rfl (Nat.le_of_ble_eq_true rfl) (fun r172 h172 q172 => ?_)
    obtain ⟨x172, rfl⟩ := q172
    show sk_S _ _ _ _ _ _ (.int _ :: _) _ _
    refine sk_S.aload_n (i := 0) (dd DX6_say_p1 47 rfl) rfl rfl ?_
    refine sk_S.aload_n (i := 0) (dd DX6_say_p1 48 rfl) rfl rfl ?_
    refine sk_S.geti (dd DX6_say_p1 49 rfl) rfl fX6_21 se_4 (by decide) rfl ?_
    refine sk_S.V 1 ((x172.2.2.2.1 3 (by decide) (by decide)).trans hV.1) ?_
    refine sk_S.iconst (v := 1) (dd DX6_say_p1 50 rfl) (by decide) ?_
    refine sk_S.iconst (v := 1) (dd DX6_say_p1 51 rfl) (by decide) ?_
    refine sk_S.iload (i := 4) (dd DX6_say_p1 52 rfl) rfl ?_
    refine sk_S.callV (dd DX6_say_p1 53 rfl) rfl kX6_36 (cV_spP x172.2.2.1) se_4 (by decide) rfl rfl rfl rfl (Nat.le_of_ble_eq_true rfl) (fun r184 h184 q184 => ?_)
    obtain ⟨rfl, rfl⟩ := q184
    show sk_S _ _ _ _ _ _ (.int _ :: _) _ _
    refine sk_S.iadd (dd DX6_say_p1 54 rfl) ?_
    refine sk_S.iret (dd DX6_say_p1 55 rfl) rfl rfl ?_
    exact ⟨x172, rfl⟩
set_option maxRecDepth 100000 in
set_option maxHeartbeats 1000000 in
theorem cV_sp_1_1_3p {l : Launch} {E : sk_V} {d : Nat} {h : sk_M} {m x : Int32} {t n dep : Nat} (hn : n + 2 ≤ 30) (hd : dep + 2 ≤ 30) (hV : voI h 1 m t n) (hp : m - nI t = 0) : sk_K l E (d + 6) MX6_speak [.ref 4, .int 1, .int 3, .int x, .int (nI dep)] h (fun r h1 => tcQ h h1 n [21, 13] 1 ∧ some (.int ((0 : Int32) + 0)) = r) := by
  refine sk_K.of (by decide +kernel) (Nat.le_of_ble_eq_true rfl) ?_
  show sk_S l E (d + 6) _ 0 [some (.ref 4), some (.int 1), some (.int 3), some (.int x), some (.int (nI dep)), none, none] [] h _
  refine sk_S.aload_n (i := 0) (dd DX6_speak 0 rfl) rfl rfl ?_
  refine sk_S.geti (dd DX6_speak 1 rfl) rfl fX6_32 se_4 (by decide) rfl ?_
  refine sk_S.if_eq (tgt := 9) (dd DX6_speak 2 rfl) (by decide) (fun c4 => ?_) (fun c4 => absurd hV.2.2.2.1 c4)
  refine sk_S.iload_n (i := 1) (dd DX6_speak 5 rfl) rfl rfl ?_
  refine sk_S.istore (i := 5) (dd DX6_speak 6 rfl) (Nat.le_of_ble_eq_true rfl) rfl ?_
  refine sk_S.iconst (v := 0) (dd DX6_speak 7 rfl) (by decide) ?_
  refine sk_S.istore (i := 6) (dd DX6_speak 8 rfl) (Nat.le_of_ble_eq_true rfl) rfl ?_
  refine sk_S.iload (i := 6) (dd DX6_speak 9 rfl) rfl ?_
  refine sk_S.bipush (v := 7) (dd DX6_speak 10 rfl) (by decide) ?_
  refine sk_S.icmp_ge (tgt := 54) (dd DX6_speak 11 rfl) (by decide) (fun c19 => absurd c19 (by decide)) (fun c19 => ?_)
  refine sk_S.iload (i := 5) (dd DX6_speak 12 rfl) rfl ?_
  refine sk_S.if_le (tgt := 54) (dd DX6_speak 13 rfl) (by decide) (fun c24 => absurd c24 (by decide)) (fun c24 => ?_)
  refine sk_S.gets (dd DX6_speak 14 rfl) rfl gsX6_40 ?_
  refine sk_S.iload (i := 5) (dd DX6_speak 15 rfl) rfl ?_
  refine sk_S.iconst (v := 4) (dd DX6_speak 16 rfl) (by decide) ?_
  refine sk_S.imul (dd DX6_speak 17 rfl) ?_
  refine sk_S.iload_n (i := 2) (dd DX6_speak 18 rfl) rfl rfl ?_
  refine sk_S.iadd (dd DX6_speak 19 rfl) ?_
  refine sk_S.roald (dd DX6_speak 20 rfl) rfl (j := 7) ⟨by decide, by decide, by decide⟩ rfl ?_
  refine sk_S.if_ne (tgt := 54) (dd DX6_speak 21 rfl) (by decide) (fun c37 => ?_) (fun c37 => absurd c37 (by decide))
  refine sk_S.iload (i := 5) (dd DX6_speak 28 rfl) rfl ?_
  refine sk_S.if_lt (tgt := 66) (dd DX6_speak 29 rfl) (by decide) (fun c56 => absurd c56 (by decide)) (fun c56 => ?_)
  refine sk_S.iload (i := 4) (dd DX6_speak 30 rfl) rfl ?_
  refine sk_S.bipush (v := 30) (dd DX6_speak 31 rfl) (by decide) ?_
  refine sk_S.icmp_le (tgt := 68) (dd DX6_speak 32 rfl) (by decide) (fun c63 => ?_) (fun c63 => absurd (nI_le (b := 30) (by omega) (by decide)) c63)
  refine sk_S.gets (dd DX6_speak 35 rfl) rfl gsX6_40 ?_
  refine sk_S.iload (i := 5) (dd DX6_speak 36 rfl) rfl ?_
  refine sk_S.iconst (v := 4) (dd DX6_speak 37 rfl) (by decide) ?_
  refine sk_S.imul (dd DX6_speak 38 rfl) ?_
  refine sk_S.iload_n (i := 2) (dd DX6_speak 39 rfl) rfl rfl ?_
  refine sk_S.iadd (dd DX6_speak 40 rfl) ?_
  refine sk_S.roald (dd DX6_speak 41 rfl) rfl (j := 7) ⟨by decide, by decide, by decide⟩ rfl ?_
  refine sk_S.istore (i := 6) (dd DX6_speak 42 rfl) (Nat.le_of_ble_eq_true rfl) rfl ?_
  refine sk_S.aload_n (i := 0) (dd DX6_speak 43 rfl) rfl rfl ?_
  refine sk_S.geti (dd DX6_speak 44 rfl) rfl fX6_29 se_4 (by decide) rfl ?_
  refine sk_S.bipush (v := 30) (dd DX6_speak 45 rfl) (by decide) ?_
  refine sk_S.icmp_ge (tgt := 110) (dd DX6_speak 46 rfl) (by decide) (fun c86 => absurd c86 (by rw [hV.2.2.2.2]; exact nI_ge (b := 30) (by omega) (by decide))) (fun c86 => ?_)
  refine sk_S.aload_n (i := 0) (dd DX6_speak 47 rfl) rfl rfl ?_
  refine sk_S.getr (dd DX6_speak 48 rfl) rfl fX6_9 se_4 (by decide) rfl ?_
  refine sk_S.aload_n (i := 0) (dd DX6_speak 49 rfl) rfl rfl ?_
  refine sk_S.geti (dd DX6_speak 50 rfl) rfl fX6_29 se_4 (by decide) rfl ?_
  refine sk_S.iload (i := 6) (dd DX6_speak 51 rfl) rfl ?_
  refine sk_S.iast (dd DX6_speak 52 rfl) se_17 (sk_ix_nI (k := n) hV.2.2.2.2 (by omega) (by decide)) ?_
  refine sk_S.aload_n (i := 0) (dd DX6_speak 53 rfl) rfl rfl ?_
  refine sk_S.dup (dd DX6_speak 54 rfl) rfl ?_
  refine sk_S.geti (dd DX6_speak 55 rfl) rfl fX6_29 se_4 (by decide) rfl ?_
  refine sk_S.iconst (v := 1) (dd DX6_speak 56 rfl) (by decide) ?_
  refine sk_S.iadd (dd DX6_speak 57 rfl) ?_
  refine sk_S.putf (dd DX6_speak 58 rfl) rfl pX6_29 se_4 (by decide) rfl rfl rfl ?_
  have xp := pshC (b := 21) hV.2.2.2.2 hV.2.2.2.1
  have hV2 := hV.up xp
  refine sk_S.aload_n (i := 0) (dd DX6_speak 59 rfl) rfl rfl ?_
  refine sk_S.iload (i := 6) (dd DX6_speak 60 rfl) rfl ?_
  refine sk_S.gets (dd DX6_speak 61 rfl) rfl gsX6_43 ?_
  refine sk_S.iload (i := 5) (dd DX6_speak 62 rfl) rfl ?_
  refine sk_S.roald (dd DX6_speak 63 rfl) rfl (j := 1) ⟨by decide, by decide, by decide⟩ rfl ?_
  refine sk_S.iload_n (i := 3) (dd DX6_speak 64 rfl) rfl rfl ?_
  refine sk_S.iload (i := 4) (dd DX6_speak 65 rfl) rfl ?_
  refine sk_S.iconst (v := 1) (dd DX6_speak 66 rfl) (by decide) ?_
  refine sk_S.iadd (dd DX6_speak 67 rfl) ?_
  refine sk_S.V (nI (dep + 1)) (nI_1 dep) ?_
  refine sk_S.callV (dd DX6_speak 68 rfl) rfl kX6_46 (cV_sy_1_1_3p (by simp only [List.length_cons, List.length_nil]; omega) (by omega) hV2 hp) se_4 (by decide) rfl rfl rfl rfl (Nat.le_of_ble_eq_true rfl) (fun r124 h124 q124 => ?_)
  obtain ⟨x124, rfl⟩ := q124
  show sk_S _ _ _ _ _ _ (.int _ :: _) _ _
  refine sk_S.iret (dd DX6_speak 69 rfl) rfl rfl ?_
  exact ⟨xp.tr x124, rfl⟩
set_option maxRecDepth 100000 in
set_option maxHeartbeats 1000000 in
theorem cV_sy_2_2_0 {l : Launch} {E : sk_V} {d : Nat} {h : sk_M} {m x : Int32} {t n dep : Nat} (hn : n + 0 ≤ 30) (hd : dep + 0 ≤ 30) (hV : voI h 2 m t n) : sk_K l E (d + 1) MX6_say [.ref 4, .int 10, .int (-1), .int x, .int (nI dep)] h (fun r h1 => tcQ h h1 n [] 0 ∧ some (.int (x + nI t)) = r) := by
  refine sk_K.of (by decide +kernel) (Nat.le_of_ble_eq_true rfl) ?_
  show sk_S l E (d + 1) _ 0 [some (.ref 4), some (.int 10), some (.int (-1)), some (.int x), some (.int (nI dep))] [] h _
  refine sk_S.iload_n (i := 1) (dd DX6_say_p1 0 rfl) rfl rfl ?_
  · refine sk_S.lookup (off := 107) (dd DX6_say_p1 1 rfl) (by decide) (by decide) (tgt := 108) (by decide) ?_
    refine sk_S.iload_n (i := 3) (dd DX6_say_p1 2 rfl) rfl rfl ?_
    refine sk_S.aload_n (i := 0) (dd DX6_say_p1 3 rfl) rfl rfl ?_
    refine sk_S.geti (dd DX6_say_p1 4 rfl) rfl fX6_26 se_4 (by decide) rfl ?_
    refine sk_S.V (nI t) hV.2.1 ?_
    refine sk_S.iadd (dd DX6_say_p1 5 rfl) ?_
    refine sk_S.iret (dd DX6_say_p1 6 rfl) rfl rfl ?_
    have e := tcQ.rf hV.2.2.2.2
    rw [hV.2.2.2.1] at e
    exact ⟨e, rfl⟩
set_option maxRecDepth 100000 in
set_option maxHeartbeats 1000000 in
theorem cV_sp_2_2_0 {l : Launch} {E : sk_V} {d : Nat} {h : sk_M} {m x : Int32} {t n dep : Nat} (hn : n + 1 ≤ 30) (hd : dep + 1 ≤ 30) (hV : voI h 2 m t n) : sk_K l E (d + 2) MX6_speak [.ref 4, .int 2, .int 0, .int x, .int (nI dep)] h (fun r h1 => tcQ h h1 n [10] 0 ∧ some (.int (x + nI t)) = r) := by
  refine sk_K.of (by decide +kernel) (Nat.le_of_ble_eq_true rfl) ?_
  show sk_S l E (d + 2) _ 0 [some (.ref 4), some (.int 2), some (.int 0), some (.int x), some (.int (nI dep)), none, none] [] h _
  refine sk_S.aload_n (i := 0) (dd DX6_speak 0 rfl) rfl rfl ?_
  refine sk_S.geti (dd DX6_speak 1 rfl) rfl fX6_32 se_4 (by decide) rfl ?_
  refine sk_S.if_eq (tgt := 9) (dd DX6_speak 2 rfl) (by decide) (fun c4 => ?_) (fun c4 => absurd hV.2.2.2.1 c4)
  refine sk_S.iload_n (i := 1) (dd DX6_speak 5 rfl) rfl rfl ?_
  refine sk_S.istore (i := 5) (dd DX6_speak 6 rfl) (Nat.le_of_ble_eq_true rfl) rfl ?_
  refine sk_S.iconst (v := 0) (dd DX6_speak 7 rfl) (by decide) ?_
  refine sk_S.istore (i := 6) (dd DX6_speak 8 rfl) (Nat.le_of_ble_eq_true rfl) rfl ?_
  refine sk_S.iload (i := 6) (dd DX6_speak 9 rfl) rfl ?_
  refine sk_S.bipush (v := 7) (dd DX6_speak 10 rfl) (by decide) ?_
  refine sk_S.icmp_ge (tgt := 54) (dd DX6_speak 11 rfl) (by decide) (fun c19 => absurd c19 (by decide)) (fun c19 => ?_)
  refine sk_S.iload (i := 5) (dd DX6_speak 12 rfl) rfl ?_
  refine sk_S.if_le (tgt := 54) (dd DX6_speak 13 rfl) (by decide) (fun c24 => absurd c24 (by decide)) (fun c24 => ?_)
  refine sk_S.gets (dd DX6_speak 14 rfl) rfl gsX6_40 ?_
  refine sk_S.iload (i := 5) (dd DX6_speak 15 rfl) rfl ?_
  refine sk_S.iconst (v := 4) (dd DX6_speak 16 rfl) (by decide) ?_
  refine sk_S.imul (dd DX6_speak 17 rfl) ?_
  refine sk_S.iload_n (i := 2) (dd DX6_speak 18 rfl) rfl rfl ?_
  refine sk_S.iadd (dd DX6_speak 19 rfl) ?_
  refine sk_S.roald (dd DX6_speak 20 rfl) rfl (j := 8) ⟨by decide, by decide, by decide⟩ rfl ?_
  refine sk_S.if_ne (tgt := 54) (dd DX6_speak 21 rfl) (by decide) (fun c37 => absurd (by decide) c37) (fun c37 => ?_)
  refine sk_S.gets (dd DX6_speak 22 rfl) rfl gsX6_43 ?_
  refine sk_S.iload (i := 5) (dd DX6_speak 23 rfl) rfl ?_
  refine sk_S.roald (dd DX6_speak 24 rfl) rfl (j := 2) ⟨by decide, by decide, by decide⟩ rfl ?_
  refine sk_S.istore (i := 5) (dd DX6_speak 25 rfl) (Nat.le_of_ble_eq_true rfl) rfl ?_
  refine sk_S.iinc (i := 6) (v := _ + 1) (dd DX6_speak 26 rfl) rfl rfl rfl ?_
  refine sk_S.goto (tgt := 15) (dd DX6_speak 27 rfl) (by decide) ?_
  refine sk_S.iload (i := 6) (dd DX6_speak 9 rfl) rfl ?_
  refine sk_S.bipush (v := 7) (dd DX6_speak 10 rfl) (by decide) ?_
  refine sk_S.icmp_ge (tgt := 54) (dd DX6_speak 11 rfl) (by decide) (fun c19 => absurd c19 (by decide)) (fun c19 => ?_)
  refine sk_S.iload (i := 5) (dd DX6_speak 12 rfl) rfl ?_
  refine sk_S.if_le (tgt := 54) (dd DX6_speak 13 rfl) (by decide) (fun c24 => ?_) (fun c24 => absurd (by decide) c24)
  refine sk_S.iload (i := 5) (dd DX6_speak 28 rfl) rfl ?_
  refine sk_S.if_lt (tgt := 66) (dd DX6_speak 29 rfl) (by decide) (fun c56 => absurd c56 (by decide)) (fun c56 => ?_)
  refine sk_S.iload (i := 4) (dd DX6_speak 30 rfl) rfl ?_
  refine sk_S.bipush (v := 30) (dd DX6_speak 31 rfl) (by decide) ?_
  refine sk_S.icmp_le (tgt := 68) (dd DX6_speak 32 rfl) (by decide) (fun c63 => ?_) (fun c63 => absurd (nI_le (b := 30) (by omega) (by decide)) c63)
  refine sk_S.gets (dd DX6_speak 35 rfl) rfl gsX6_40 ?_
  refine sk_S.iload (i := 5) (dd DX6_speak 36 rfl) rfl ?_
  refine sk_S.iconst (v := 4) (dd DX6_speak 37 rfl) (by decide) ?_
  refine sk_S.imul (dd DX6_speak 38 rfl) ?_
  refine sk_S.iload_n (i := 2) (dd DX6_speak 39 rfl) rfl rfl ?_
  refine sk_S.iadd (dd DX6_speak 40 rfl) ?_
  refine sk_S.roald (dd DX6_speak 41 rfl) rfl (j := 0) ⟨by decide, by decide, by decide⟩ rfl ?_
  refine sk_S.istore (i := 6) (dd DX6_speak 42 rfl) (Nat.le_of_ble_eq_true rfl) rfl ?_
  refine sk_S.aload_n (i := 0) (dd DX6_speak 43 rfl) rfl rfl ?_
  refine sk_S.geti (dd DX6_speak 44 rfl) rfl fX6_29 se_4 (by decide) rfl ?_
  refine sk_S.bipush (v := 30) (dd DX6_speak 45 rfl) (by decide) ?_
  refine sk_S.icmp_ge (tgt := 110) (dd DX6_speak 46 rfl) (by decide) (fun c86 => absurd c86 (by rw [hV.2.2.2.2]; exact nI_ge (b := 30) (by omega) (by decide))) (fun c86 => ?_)
  refine sk_S.aload_n (i := 0) (dd DX6_speak 47 rfl) rfl rfl ?_
  refine sk_S.getr (dd DX6_speak 48 rfl) rfl fX6_9 se_4 (by decide) rfl ?_
  refine sk_S.aload_n (i := 0) (dd DX6_speak 49 rfl) rfl rfl ?_
  refine sk_S.geti (dd DX6_speak 50 rfl) rfl fX6_29 se_4 (by decide) rfl ?_
  refine sk_S.iload (i := 6) (dd DX6_speak 51 rfl) rfl ?_
  refine sk_S.iast (dd DX6_speak 52 rfl) se_17 (sk_ix_nI (k := n) hV.2.2.2.2 (by omega) (by decide)) ?_
  refine sk_S.aload_n (i := 0) (dd DX6_speak 53 rfl) rfl rfl ?_
  refine sk_S.dup (dd DX6_speak 54 rfl) rfl ?_
  refine sk_S.geti (dd DX6_speak 55 rfl) rfl fX6_29 se_4 (by decide) rfl ?_
  refine sk_S.iconst (v := 1) (dd DX6_speak 56 rfl) (by decide) ?_
  refine sk_S.iadd (dd DX6_speak 57 rfl) ?_
  refine sk_S.putf (dd DX6_speak 58 rfl) rfl pX6_29 se_4 (by decide) rfl rfl rfl ?_
  have xp := pshC (b := 10) hV.2.2.2.2 hV.2.2.2.1
  have hV2 := hV.up xp
  refine sk_S.aload_n (i := 0) (dd DX6_speak 59 rfl) rfl rfl ?_
  refine sk_S.iload (i := 6) (dd DX6_speak 60 rfl) rfl ?_
  refine sk_S.gets (dd DX6_speak 61 rfl) rfl gsX6_43 ?_
  refine sk_S.iload (i := 5) (dd DX6_speak 62 rfl) rfl ?_
  refine sk_S.roald (dd DX6_speak 63 rfl) rfl (j := 0) ⟨by decide, by decide, by decide⟩ rfl ?_
  refine sk_S.iload_n (i := 3) (dd DX6_speak 64 rfl) rfl rfl ?_
  refine sk_S.iload (i := 4) (dd DX6_speak 65 rfl) rfl ?_
  refine sk_S.iconst (v := 1) (dd DX6_speak 66 rfl) (by decide) ?_
  refine sk_S.iadd (dd DX6_speak 67 rfl) ?_
  refine sk_S.V (nI (dep + 1)) (nI_1 dep) ?_
  refine sk_S.callV (dd DX6_speak 68 rfl) rfl kX6_46 (cV_sy_2_2_0 (by simp only [List.length_cons, List.length_nil]; omega) (by omega) hV2) se_4 (by decide) rfl rfl rfl rfl (Nat.le_of_ble_eq_true rfl) (fun r124 h124 q124 => ?_)
  obtain ⟨x124, rfl⟩ := q124
  show sk_S _ _ _ _ _ _ (.int _ :: _) _ _
  refine sk_S.iret (dd DX6_speak 69 rfl) rfl rfl ?_
  exact ⟨xp.tr x124, rfl⟩
set_option maxRecDepth 100000 in
set_option maxHeartbeats 1000000 in
theorem cV_sy_2_0_1 {l : Launch} {E : sk_V} {d : Nat} {h : sk_M} {m x : Int32} {t n dep : Nat} (hn : n + 1 ≤ 30) (hd : dep + 1 ≤ 30) (hV : voI h 2 m t n) : sk_K l E (d + 4) MX6_say [.ref 4, .int 11, .int (-1), .int x, .int (nI dep)] h (fun r h1 => tcQ h h1 n [10] 0 ∧ some (.int ((x + nI t) * 2)) = r) := by
  refine sk_K.of (by decide +kernel) (Nat.le_of_ble_eq_true rfl) ?_
  show sk_S l E (d + 4) _ 0 [some (.ref 4), some (.int 11), some (.int (-1)), some (.int x), some (.int (nI dep))] [] h _
  refine sk_S.iload_n (i := 1) (dd DX6_say_p1 0 rfl) rfl rfl ?_
  · refine sk_S.lookup (off := 114) (dd DX6_say_p1 1 rfl) (by decide) (by decide) (tgt := 115) (by decide) ?_
    refine sk_S.aload_n (i := 0) (dd DX6_say_p1 7 rfl) rfl rfl ?_
    refine sk_S.aload_n (i := 0) (dd DX6_say_p1 8 rfl) rfl rfl ?_
    refine sk_S.geti (dd DX6_say_p1 9 rfl) rfl fX6_21 se_4 (by decide) rfl ?_
    refine sk_S.V 2 hV.1 ?_
    refine sk_S.iconst (v := 0) (dd DX6_say_p1 10 rfl) (by decide) ?_
    refine sk_S.iload_n (i := 3) (dd DX6_say_p1 11 rfl) rfl rfl ?_
    refine sk_S.iload (i := 4) (dd DX6_say_p1 12 rfl) rfl ?_
    refine sk_S.callV (dd DX6_say_p1 13 rfl) rfl kX6_36 (cV_sp_2_2_0 (x := x) (by omega) (by omega) hV) se_4 (by decide) rfl rfl rfl rfl (Nat.le_of_ble_eq_true rfl) (fun r124 h124 q124 => ?_)
    obtain ⟨x124, rfl⟩ := q124
    show sk_S _ _ _ _ _ _ (.int _ :: _) _ _
    refine sk_S.iconst (v := 2) (dd DX6_say_p1 14 rfl) (by decide) ?_
    refine sk_S.imul (dd DX6_say_p1 15 rfl) ?_
    refine sk_S.iret (dd DX6_say_p1 16 rfl) rfl rfl ?_
    exact ⟨x124, rfl⟩
set_option maxRecDepth 100000 in
set_option maxHeartbeats 1000000 in
theorem cV_sp_2_0_1 {l : Launch} {E : sk_V} {d : Nat} {h : sk_M} {m x : Int32} {t n dep : Nat} (hn : n + 2 ≤ 30) (hd : dep + 2 ≤ 30) (hV : voI h 2 m t n) : sk_K l E (d + 5) MX6_speak [.ref 4, .int 0, .int 1, .int x, .int (nI dep)] h (fun r h1 => tcQ h h1 n [11, 10] 0 ∧ some (.int ((x + nI t) * 2)) = r) := by
  refine sk_K.of (by decide +kernel) (Nat.le_of_ble_eq_true rfl) ?_
  show sk_S l E (d + 5) _ 0 [some (.ref 4), some (.int 0), some (.int 1), some (.int x), some (.int (nI dep)), none, none] [] h _
  refine sk_S.aload_n (i := 0) (dd DX6_speak 0 rfl) rfl rfl ?_
  refine sk_S.geti (dd DX6_speak 1 rfl) rfl fX6_32 se_4 (by decide) rfl ?_
  refine sk_S.if_eq (tgt := 9) (dd DX6_speak 2 rfl) (by decide) (fun c4 => ?_) (fun c4 => absurd hV.2.2.2.1 c4)
  refine sk_S.iload_n (i := 1) (dd DX6_speak 5 rfl) rfl rfl ?_
  refine sk_S.istore (i := 5) (dd DX6_speak 6 rfl) (Nat.le_of_ble_eq_true rfl) rfl ?_
  refine sk_S.iconst (v := 0) (dd DX6_speak 7 rfl) (by decide) ?_
  refine sk_S.istore (i := 6) (dd DX6_speak 8 rfl) (Nat.le_of_ble_eq_true rfl) rfl ?_
  refine sk_S.iload (i := 6) (dd DX6_speak 9 rfl) rfl ?_
  refine sk_S.bipush (v := 7) (dd DX6_speak 10 rfl) (by decide) ?_
  refine sk_S.icmp_ge (tgt := 54) (dd DX6_speak 11 rfl) (by decide) (fun c19 => absurd c19 (by decide)) (fun c19 => ?_)
  refine sk_S.iload (i := 5) (dd DX6_speak 12 rfl) rfl ?_
  refine sk_S.if_le (tgt := 54) (dd DX6_speak 13 rfl) (by decide) (fun c24 => ?_) (fun c24 => absurd (by decide) c24)
  refine sk_S.iload (i := 5) (dd DX6_speak 28 rfl) rfl ?_
  refine sk_S.if_lt (tgt := 66) (dd DX6_speak 29 rfl) (by decide) (fun c56 => absurd c56 (by decide)) (fun c56 => ?_)
  refine sk_S.iload (i := 4) (dd DX6_speak 30 rfl) rfl ?_
  refine sk_S.bipush (v := 30) (dd DX6_speak 31 rfl) (by decide) ?_
  refine sk_S.icmp_le (tgt := 68) (dd DX6_speak 32 rfl) (by decide) (fun c63 => ?_) (fun c63 => absurd (nI_le (b := 30) (by omega) (by decide)) c63)
  refine sk_S.gets (dd DX6_speak 35 rfl) rfl gsX6_40 ?_
  refine sk_S.iload (i := 5) (dd DX6_speak 36 rfl) rfl ?_
  refine sk_S.iconst (v := 4) (dd DX6_speak 37 rfl) (by decide) ?_
  refine sk_S.imul (dd DX6_speak 38 rfl) ?_
  refine sk_S.iload_n (i := 2) (dd DX6_speak 39 rfl) rfl rfl ?_
  refine sk_S.iadd (dd DX6_speak 40 rfl) ?_
  refine sk_S.roald (dd DX6_speak 41 rfl) rfl (j := 1) ⟨by decide, by decide, by decide⟩ rfl ?_
  refine sk_S.istore (i := 6) (dd DX6_speak 42 rfl) (Nat.le_of_ble_eq_true rfl) rfl ?_
  refine sk_S.aload_n (i := 0) (dd DX6_speak 43 rfl) rfl rfl ?_
  refine sk_S.geti (dd DX6_speak 44 rfl) rfl fX6_29 se_4 (by decide) rfl ?_
  refine sk_S.bipush (v := 30) (dd DX6_speak 45 rfl) (by decide) ?_
  refine sk_S.icmp_ge (tgt := 110) (dd DX6_speak 46 rfl) (by decide) (fun c86 => absurd c86 (by rw [hV.2.2.2.2]; exact nI_ge (b := 30) (by omega) (by decide))) (fun c86 => ?_)
  refine sk_S.aload_n (i := 0) (dd DX6_speak 47 rfl) rfl rfl ?_
  refine sk_S.getr (dd DX6_speak 48 rfl) rfl fX6_9 se_4 (by decide) rfl ?_
  refine sk_S.aload_n (i := 0) (dd DX6_speak 49 rfl) rfl rfl ?_
  refine sk_S.geti (dd DX6_speak 50 rfl) rfl fX6_29 se_4 (by decide) rfl ?_
  refine sk_S.iload (i := 6) (dd DX6_speak 51 rfl) rfl ?_
  refine sk_S.iast (dd DX6_speak 52 rfl) se_17 (sk_ix_nI (k := n) hV.2.2.2.2 (by omega) (by decide)) ?_
  refine sk_S.aload_n (i := 0) (dd DX6_speak 53 rfl) rfl rfl ?_
  refine sk_S.dup (dd DX6_speak 54 rfl) rfl ?_
  refine sk_S.geti (dd DX6_speak 55 rfl) rfl fX6_29 se_4 (by decide) rfl ?_
  refine sk_S.iconst (v := 1) (dd DX6_speak 56 rfl) (by decide) ?_
  refine sk_S.iadd (dd DX6_speak 57 rfl) ?_
  refine sk_S.putf (dd DX6_speak 58 rfl) rfl pX6_29 se_4 (by decide) rfl rfl rfl ?_
  have xp := pshC (b := 11) hV.2.2.2.2 hV.2.2.2.1
  have hV2 := hV.up xp
  refine sk_S.aload_n (i := 0) (dd DX6_speak 59 rfl) rfl rfl ?_
  refine sk_S.iload (i := 6) (dd DX6_speak 60 rfl) rfl ?_
  refine sk_S.gets (dd DX6_speak 61 rfl) rfl gsX6_43 ?_
  refine sk_S.iload (i := 5) (dd DX6_speak 62 rfl) rfl ?_
  refine sk_S.roald (dd DX6_speak 63 rfl) rfl (j := 0) ⟨by decide, by decide, by decide⟩ rfl ?_
  refine sk_S.iload_n (i := 3) (dd DX6_speak 64 rfl) rfl rfl ?_
  refine sk_S.iload (i := 4) (dd DX6_speak 65 rfl) rfl ?_
  refine sk_S.iconst (v := 1) (dd DX6_speak 66 rfl) (by decide) ?_
  refine sk_S.iadd (dd DX6_speak 67 rfl) ?_
  refine sk_S.V (nI (dep + 1)) (nI_1 dep) ?_
  refine sk_S.callV (dd DX6_speak 68 rfl) rfl kX6_46 (cV_sy_2_0_1 (by simp only [List.length_cons, List.length_nil]; omega) (by omega) hV2) se_4 (by decide) rfl rfl rfl rfl (Nat.le_of_ble_eq_true rfl) (fun r124 h124 q124 => ?_)
  obtain ⟨x124, rfl⟩ := q124
  show sk_S _ _ _ _ _ _ (.int _ :: _) _ _
  refine sk_S.iret (dd DX6_speak 69 rfl) rfl rfl ?_
  exact ⟨xp.tr x124, rfl⟩
set_option maxRecDepth 100000 in
set_option maxHeartbeats 1000000 in
theorem cV_sy_2_2_1 {l : Launch} {E : sk_V} {d : Nat} {h : sk_M} {m x : Int32} {t n dep : Nat} (hn : n + 2 ≤ 30) (hd : dep + 2 ≤ 30) (hV : voI h 2 m t n) : sk_K l E (d + 7) MX6_say [.ref 4, .int 30, .int 0, .int x, .int (nI dep)] h (fun r h1 => tcQ h h1 n [11, 10] 0 ∧ some (.int (0 - ((x + nI t) * 2))) = r) := by
  refine sk_K.of (by decide +kernel) (Nat.le_of_ble_eq_true rfl) ?_
  show sk_S l E (d + 7) _ 0 [some (.ref 4), some (.int 30), some (.int 0), some (.int x), some (.int (nI dep))] [] h _
  refine sk_S.iload_n (i := 1) (dd DX6_say_p1 0 rfl) rfl rfl ?_
  · refine sk_S.lookup (off := 188) (dd DX6_say_p1 1 rfl) (by decide) (by decide) (tgt := 189) (by decide) ?_
    refine sk_S.iconst (v := 0) (dd DX6_say_p1 56 rfl) (by decide) ?_
    refine sk_S.aload_n (i := 0) (dd DX6_say_p1 57 rfl) rfl rfl ?_
    refine sk_S.iload_n (i := 2) (dd DX6_say_p1 58 rfl) rfl rfl ?_
    refine sk_S.iconst (v := 1) (dd DX6_say_p1 59 rfl) (by decide) ?_
    refine sk_S.iload_n (i := 3) (dd DX6_say_p1 60 rfl) rfl rfl ?_
    refine sk_S.iload (i := 4) (dd DX6_say_p1 61 rfl) rfl ?_
    refine sk_S.callV (dd DX6_say_p1 62 rfl) rfl kX6_36 (cV_sp_2_0_1 (x := x) (by omega) (by omega) hV) se_4 (by decide) rfl rfl rfl rfl (Nat.le_of_ble_eq_true rfl) (fun r196 h196 q196 => ?_)
    obtain ⟨x196, rfl⟩ := q196
    show sk_S _ _ _ _ _ _ (.int _ :: _) _ _
    refine sk_S.isub (dd DX6_say_p1 63 rfl) ?_
    refine sk_S.iret (dd DX6_say_p1 64 rfl) rfl rfl ?_
    exact ⟨x196, rfl⟩
set_option maxRecDepth 100000 in
set_option maxHeartbeats 1000000 in
theorem cV_sp_2_2_1 {l : Launch} {E : sk_V} {d : Nat} {h : sk_M} {m x : Int32} {t n dep : Nat} (hn : n + 3 ≤ 30) (hd : dep + 3 ≤ 30) (hV : voI h 2 m t n) : sk_K l E (d + 8) MX6_speak [.ref 4, .int 2, .int 1, .int x, .int (nI dep)] h (fun r h1 => tcQ h h1 n [30, 11, 10] 0 ∧ some (.int (0 - ((x + nI t) * 2))) = r) := by
  refine sk_K.of (by decide +kernel) (Nat.le_of_ble_eq_true rfl) ?_
  show sk_S l E (d + 8) _ 0 [some (.ref 4), some (.int 2), some (.int 1), some (.int x), some (.int (nI dep)), none, none] [] h _
  refine sk_S.aload_n (i := 0) (dd DX6_speak 0 rfl) rfl rfl ?_
  refine sk_S.geti (dd DX6_speak 1 rfl) rfl fX6_32 se_4 (by decide) rfl ?_
  refine sk_S.if_eq (tgt := 9) (dd DX6_speak 2 rfl) (by decide) (fun c4 => ?_) (fun c4 => absurd hV.2.2.2.1 c4)
  refine sk_S.iload_n (i := 1) (dd DX6_speak 5 rfl) rfl rfl ?_
  refine sk_S.istore (i := 5) (dd DX6_speak 6 rfl) (Nat.le_of_ble_eq_true rfl) rfl ?_
  refine sk_S.iconst (v := 0) (dd DX6_speak 7 rfl) (by decide) ?_
  refine sk_S.istore (i := 6) (dd DX6_speak 8 rfl) (Nat.le_of_ble_eq_true rfl) rfl ?_
  refine sk_S.iload (i := 6) (dd DX6_speak 9 rfl) rfl ?_
  refine sk_S.bipush (v := 7) (dd DX6_speak 10 rfl) (by decide) ?_
  refine sk_S.icmp_ge (tgt := 54) (dd DX6_speak 11 rfl) (by decide) (fun c19 => absurd c19 (by decide)) (fun c19 => ?_)
  refine sk_S.iload (i := 5) (dd DX6_speak 12 rfl) rfl ?_
  refine sk_S.if_le (tgt := 54) (dd DX6_speak 13 rfl) (by decide) (fun c24 => absurd c24 (by decide)) (fun c24 => ?_)
  refine sk_S.gets (dd DX6_speak 14 rfl) rfl gsX6_40 ?_
  refine sk_S.iload (i := 5) (dd DX6_speak 15 rfl) rfl ?_
  refine sk_S.iconst (v := 4) (dd DX6_speak 16 rfl) (by decide) ?_
  refine sk_S.imul (dd DX6_speak 17 rfl) ?_
  refine sk_S.iload_n (i := 2) (dd DX6_speak 18 rfl) rfl rfl ?_
  refine sk_S.iadd (dd DX6_speak 19 rfl) ?_
  refine sk_S.roald (dd DX6_speak 20 rfl) rfl (j := 9) ⟨by decide, by decide, by decide⟩ rfl ?_
  refine sk_S.if_ne (tgt := 54) (dd DX6_speak 21 rfl) (by decide) (fun c37 => ?_) (fun c37 => absurd c37 (by decide))
  refine sk_S.iload (i := 5) (dd DX6_speak 28 rfl) rfl ?_
  refine sk_S.if_lt (tgt := 66) (dd DX6_speak 29 rfl) (by decide) (fun c56 => absurd c56 (by decide)) (fun c56 => ?_)
  refine sk_S.iload (i := 4) (dd DX6_speak 30 rfl) rfl ?_
  refine sk_S.bipush (v := 30) (dd DX6_speak 31 rfl) (by decide) ?_
  refine sk_S.icmp_le (tgt := 68) (dd DX6_speak 32 rfl) (by decide) (fun c63 => ?_) (fun c63 => absurd (nI_le (b := 30) (by omega) (by decide)) c63)
  refine sk_S.gets (dd DX6_speak 35 rfl) rfl gsX6_40 ?_
  refine sk_S.iload (i := 5) (dd DX6_speak 36 rfl) rfl ?_
  refine sk_S.iconst (v := 4) (dd DX6_speak 37 rfl) (by decide) ?_
  refine sk_S.imul (dd DX6_speak 38 rfl) ?_
  refine sk_S.iload_n (i := 2) (dd DX6_speak 39 rfl) rfl rfl ?_
  refine sk_S.iadd (dd DX6_speak 40 rfl) ?_
  refine sk_S.roald (dd DX6_speak 41 rfl) rfl (j := 9) ⟨by decide, by decide, by decide⟩ rfl ?_
  refine sk_S.istore (i := 6) (dd DX6_speak 42 rfl) (Nat.le_of_ble_eq_true rfl) rfl ?_
  refine sk_S.aload_n (i := 0) (dd DX6_speak 43 rfl) rfl rfl ?_
  refine sk_S.geti (dd DX6_speak 44 rfl) rfl fX6_29 se_4 (by decide) rfl ?_
  refine sk_S.bipush (v := 30) (dd DX6_speak 45 rfl) (by decide) ?_
  refine sk_S.icmp_ge (tgt := 110) (dd DX6_speak 46 rfl) (by decide) (fun c86 => absurd c86 (by rw [hV.2.2.2.2]; exact nI_ge (b := 30) (by omega) (by decide))) (fun c86 => ?_)
  refine sk_S.aload_n (i := 0) (dd DX6_speak 47 rfl) rfl rfl ?_
  refine sk_S.getr (dd DX6_speak 48 rfl) rfl fX6_9 se_4 (by decide) rfl ?_
  refine sk_S.aload_n (i := 0) (dd DX6_speak 49 rfl) rfl rfl ?_
  refine sk_S.geti (dd DX6_speak 50 rfl) rfl fX6_29 se_4 (by decide) rfl ?_
  refine sk_S.iload (i := 6) (dd DX6_speak 51 rfl) rfl ?_
  refine sk_S.iast (dd DX6_speak 52 rfl) se_17 (sk_ix_nI (k := n) hV.2.2.2.2 (by omega) (by decide)) ?_
  refine sk_S.aload_n (i := 0) (dd DX6_speak 53 rfl) rfl rfl ?_
  refine sk_S.dup (dd DX6_speak 54 rfl) rfl ?_
  refine sk_S.geti (dd DX6_speak 55 rfl) rfl fX6_29 se_4 (by decide) rfl ?_
  refine sk_S.iconst (v := 1) (dd DX6_speak 56 rfl) (by decide) ?_
  refine sk_S.iadd (dd DX6_speak 57 rfl) ?_
  refine sk_S.putf (dd DX6_speak 58 rfl) rfl pX6_29 se_4 (by decide) rfl rfl rfl ?_
  have xp := pshC (b := 30) hV.2.2.2.2 hV.2.2.2.1
  have hV2 := hV.up xp
  refine sk_S.aload_n (i := 0) (dd DX6_speak 59 rfl) rfl rfl ?_
  refine sk_S.iload (i := 6) (dd DX6_speak 60 rfl) rfl ?_
  refine sk_S.gets (dd DX6_speak 61 rfl) rfl gsX6_43 ?_
  refine sk_S.iload (i := 5) (dd DX6_speak 62 rfl) rfl ?_
  refine sk_S.roald (dd DX6_speak 63 rfl) rfl (j := 2) ⟨by decide, by decide, by decide⟩ rfl ?_
  refine sk_S.iload_n (i := 3) (dd DX6_speak 64 rfl) rfl rfl ?_
  refine sk_S.iload (i := 4) (dd DX6_speak 65 rfl) rfl ?_
  refine sk_S.iconst (v := 1) (dd DX6_speak 66 rfl) (by decide) ?_
  refine sk_S.iadd (dd DX6_speak 67 rfl) ?_
  refine sk_S.V (nI (dep + 1)) (nI_1 dep) ?_
  refine sk_S.callV (dd DX6_speak 68 rfl) rfl kX6_46 (cV_sy_2_2_1 (by simp only [List.length_cons, List.length_nil]; omega) (by omega) hV2) se_4 (by decide) rfl rfl rfl rfl (Nat.le_of_ble_eq_true rfl) (fun r124 h124 q124 => ?_)
  obtain ⟨x124, rfl⟩ := q124
  show sk_S _ _ _ _ _ _ (.int _ :: _) _ _
  refine sk_S.iret (dd DX6_speak 69 rfl) rfl rfl ?_
  exact ⟨xp.tr x124, rfl⟩
set_option maxRecDepth 100000 in
set_option maxHeartbeats 1000000 in
theorem cV_sy_2_2_2 {l : Launch} {E : sk_V} {d : Nat} {h : sk_M} {m x : Int32} {t n dep : Nat} (hn : n + 3 ≤ 30) (hd : dep + 3 ≤ 30) (hV : voI h 2 m t n) : sk_K l E (d + 10) MX6_say [.ref 4, .int 12, .int (-1), .int x, .int (nI dep)] h (fun r h1 => tcQ h h1 n [30, 11, 10] 0 ∧ some (.int ((0 - ((x + nI t) * 2)) - m)) = r) := by
  refine sk_K.of (by decide +kernel) (Nat.le_of_ble_eq_true rfl) ?_
  show sk_S l E (d + 10) _ 0 [some (.ref 4), some (.int 12), some (.int (-1)), some (.int x), some (.int (nI dep))] [] h _
  refine sk_S.iload_n (i := 1) (dd DX6_say_p1 0 rfl) rfl rfl ?_
  · refine sk_S.lookup (off := 129) (dd DX6_say_p1 1 rfl) (by decide) (by decide) (tgt := 130) (by decide) ?_
    refine sk_S.aload_n (i := 0) (dd DX6_say_p1 17 rfl) rfl rfl ?_
    refine sk_S.aload_n (i := 0) (dd DX6_say_p1 18 rfl) rfl rfl ?_
    refine sk_S.geti (dd DX6_say_p1 19 rfl) rfl fX6_21 se_4 (by decide) rfl ?_
    refine sk_S.V 2 hV.1 ?_
    refine sk_S.iconst (v := 1) (dd DX6_say_p1 20 rfl) (by decide) ?_
    refine sk_S.iload_n (i := 3) (dd DX6_say_p1 21 rfl) rfl rfl ?_
    refine sk_S.iload (i := 4) (dd DX6_say_p1 22 rfl) rfl ?_
    refine sk_S.callV (dd DX6_say_p1 23 rfl) rfl kX6_36 (cV_sp_2_2_1 (x := x) (by omega) (by omega) hV) se_4 (by decide) rfl rfl rfl rfl (Nat.le_of_ble_eq_true rfl) (fun r139 h139 q139 => ?_)
    obtain ⟨x139, rfl⟩ := q139
    show sk_S _ _ _ _ _ _ (.int _ :: _) _ _
    refine sk_S.aload_n (i := 0) (dd DX6_say_p1 24 rfl) rfl rfl ?_
    refine sk_S.geti (dd DX6_say_p1 25 rfl) rfl fX6_25 se_4 (by decide) rfl ?_
    refine sk_S.V m ((x139.2.2.2.1 5 (by decide) (by decide)).trans hV.2.2.1) ?_
    refine sk_S.isub (dd DX6_say_p1 26 rfl) ?_
    refine sk_S.iret (dd DX6_say_p1 27 rfl) rfl rfl ?_
    exact ⟨x139, rfl⟩
set_option maxRecDepth 100000 in
set_option maxHeartbeats 1000000 in
theorem cV_sp_2_2_2 {l : Launch} {E : sk_V} {d : Nat} {h : sk_M} {m x : Int32} {t n dep : Nat} (hn : n + 4 ≤ 30) (hd : dep + 4 ≤ 30) (hV : voI h 2 m t n) : sk_K l E (d + 11) MX6_speak [.ref 4, .int 2, .int 2, .int x, .int (nI dep)] h (fun r h1 => tcQ h h1 n [12, 30, 11, 10] 0 ∧ some (.int ((0 - ((x + nI t) * 2)) - m)) = r) := by
  refine sk_K.of (by decide +kernel) (Nat.le_of_ble_eq_true rfl) ?_
  show sk_S l E (d + 11) _ 0 [some (.ref 4), some (.int 2), some (.int 2), some (.int x), some (.int (nI dep)), none, none] [] h _
  refine sk_S.aload_n (i := 0) (dd DX6_speak 0 rfl) rfl rfl ?_
  refine sk_S.geti (dd DX6_speak 1 rfl) rfl fX6_32 se_4 (by decide) rfl ?_
  refine sk_S.if_eq (tgt := 9) (dd DX6_speak 2 rfl) (by decide) (fun c4 => ?_) (fun c4 => absurd hV.2.2.2.1 c4)
  refine sk_S.iload_n (i := 1) (dd DX6_speak 5 rfl) rfl rfl ?_
  refine sk_S.istore (i := 5) (dd DX6_speak 6 rfl) (Nat.le_of_ble_eq_true rfl) rfl ?_
  refine sk_S.iconst (v := 0) (dd DX6_speak 7 rfl) (by decide) ?_
  refine sk_S.istore (i := 6) (dd DX6_speak 8 rfl) (Nat.le_of_ble_eq_true rfl) rfl ?_
  refine sk_S.iload (i := 6) (dd DX6_speak 9 rfl) rfl ?_
  refine sk_S.bipush (v := 7) (dd DX6_speak 10 rfl) (by decide) ?_
  refine sk_S.icmp_ge (tgt := 54) (dd DX6_speak 11 rfl) (by decide) (fun c19 => absurd c19 (by decide)) (fun c19 => ?_)
  refine sk_S.iload (i := 5) (dd DX6_speak 12 rfl) rfl ?_
  refine sk_S.if_le (tgt := 54) (dd DX6_speak 13 rfl) (by decide) (fun c24 => absurd c24 (by decide)) (fun c24 => ?_)
  refine sk_S.gets (dd DX6_speak 14 rfl) rfl gsX6_40 ?_
  refine sk_S.iload (i := 5) (dd DX6_speak 15 rfl) rfl ?_
  refine sk_S.iconst (v := 4) (dd DX6_speak 16 rfl) (by decide) ?_
  refine sk_S.imul (dd DX6_speak 17 rfl) ?_
  refine sk_S.iload_n (i := 2) (dd DX6_speak 18 rfl) rfl rfl ?_
  refine sk_S.iadd (dd DX6_speak 19 rfl) ?_
  refine sk_S.roald (dd DX6_speak 20 rfl) rfl (j := 10) ⟨by decide, by decide, by decide⟩ rfl ?_
  refine sk_S.if_ne (tgt := 54) (dd DX6_speak 21 rfl) (by decide) (fun c37 => absurd (by decide) c37) (fun c37 => ?_)
  refine sk_S.gets (dd DX6_speak 22 rfl) rfl gsX6_43 ?_
  refine sk_S.iload (i := 5) (dd DX6_speak 23 rfl) rfl ?_
  refine sk_S.roald (dd DX6_speak 24 rfl) rfl (j := 2) ⟨by decide, by decide, by decide⟩ rfl ?_
  refine sk_S.istore (i := 5) (dd DX6_speak 25 rfl) (Nat.le_of_ble_eq_true rfl) rfl ?_
  refine sk_S.iinc (i := 6) (v := _ + 1) (dd DX6_speak 26 rfl) rfl rfl rfl ?_
  refine sk_S.goto (tgt := 15) (dd DX6_speak 27 rfl) (by decide) ?_
  refine sk_S.iload (i := 6) (dd DX6_speak 9 rfl) rfl ?_
  refine sk_S.bipush (v := 7) (dd DX6_speak 10 rfl) (by decide) ?_
  refine sk_S.icmp_ge (tgt := 54) (dd DX6_speak 11 rfl) (by decide) (fun c19 => absurd c19 (by decide)) (fun c19 => ?_)
  refine sk_S.iload (i := 5) (dd DX6_speak 12 rfl) rfl ?_
  refine sk_S.if_le (tgt := 54) (dd DX6_speak 13 rfl) (by decide) (fun c24 => ?_) (fun c24 => absurd (by decide) c24)
  refine sk_S.iload (i := 5) (dd DX6_speak 28 rfl) rfl ?_
  refine sk_S.if_lt (tgt := 66) (dd DX6_speak 29 rfl) (by decide) (fun c56 => absurd c56 (by decide)) (fun c56 => ?_)
  refine sk_S.iload (i := 4) (dd DX6_speak 30 rfl) rfl ?_
  refine sk_S.bipush (v := 30) (dd DX6_speak 31 rfl) (by decide) ?_
  refine sk_S.icmp_le (tgt := 68) (dd DX6_speak 32 rfl) (by decide) (fun c63 => ?_) (fun c63 => absurd (nI_le (b := 30) (by omega) (by decide)) c63)
  refine sk_S.gets (dd DX6_speak 35 rfl) rfl gsX6_40 ?_
  refine sk_S.iload (i := 5) (dd DX6_speak 36 rfl) rfl ?_
  refine sk_S.iconst (v := 4) (dd DX6_speak 37 rfl) (by decide) ?_
  refine sk_S.imul (dd DX6_speak 38 rfl) ?_
  refine sk_S.iload_n (i := 2) (dd DX6_speak 39 rfl) rfl rfl ?_
  refine sk_S.iadd (dd DX6_speak 40 rfl) ?_
  refine sk_S.roald (dd DX6_speak 41 rfl) rfl (j := 2) ⟨by decide, by decide, by decide⟩ rfl ?_
  refine sk_S.istore (i := 6) (dd DX6_speak 42 rfl) (Nat.le_of_ble_eq_true rfl) rfl ?_
  refine sk_S.aload_n (i := 0) (dd DX6_speak 43 rfl) rfl rfl ?_
  refine sk_S.geti (dd DX6_speak 44 rfl) rfl fX6_29 se_4 (by decide) rfl ?_
  refine sk_S.bipush (v := 30) (dd DX6_speak 45 rfl) (by decide) ?_
  refine sk_S.icmp_ge (tgt := 110) (dd DX6_speak 46 rfl) (by decide) (fun c86 => absurd c86 (by rw [hV.2.2.2.2]; exact nI_ge (b := 30) (by omega) (by decide))) (fun c86 => ?_)
  refine sk_S.aload_n (i := 0) (dd DX6_speak 47 rfl) rfl rfl ?_
  refine sk_S.getr (dd DX6_speak 48 rfl) rfl fX6_9 se_4 (by decide) rfl ?_
  refine sk_S.aload_n (i := 0) (dd DX6_speak 49 rfl) rfl rfl ?_
  refine sk_S.geti (dd DX6_speak 50 rfl) rfl fX6_29 se_4 (by decide) rfl ?_
  refine sk_S.iload (i := 6) (dd DX6_speak 51 rfl) rfl ?_
  refine sk_S.iast (dd DX6_speak 52 rfl) se_17 (sk_ix_nI (k := n) hV.2.2.2.2 (by omega) (by decide)) ?_
  refine sk_S.aload_n (i := 0) (dd DX6_speak 53 rfl) rfl rfl ?_
  refine sk_S.dup (dd DX6_speak 54 rfl) rfl ?_
  refine sk_S.geti (dd DX6_speak 55 rfl) rfl fX6_29 se_4 (by decide) rfl ?_
  refine sk_S.iconst (v := 1) (dd DX6_speak 56 rfl) (by decide) ?_
  refine sk_S.iadd (dd DX6_speak 57 rfl) ?_
  refine sk_S.putf (dd DX6_speak 58 rfl) rfl pX6_29 se_4 (by decide) rfl rfl rfl ?_
  have xp := pshC (b := 12) hV.2.2.2.2 hV.2.2.2.1
  have hV2 := hV.up xp
  refine sk_S.aload_n (i := 0) (dd DX6_speak 59 rfl) rfl rfl ?_
  refine sk_S.iload (i := 6) (dd DX6_speak 60 rfl) rfl ?_
  refine sk_S.gets (dd DX6_speak 61 rfl) rfl gsX6_43 ?_
  refine sk_S.iload (i := 5) (dd DX6_speak 62 rfl) rfl ?_
  refine sk_S.roald (dd DX6_speak 63 rfl) rfl (j := 0) ⟨by decide, by decide, by decide⟩ rfl ?_
  refine sk_S.iload_n (i := 3) (dd DX6_speak 64 rfl) rfl rfl ?_
  refine sk_S.iload (i := 4) (dd DX6_speak 65 rfl) rfl ?_
  refine sk_S.iconst (v := 1) (dd DX6_speak 66 rfl) (by decide) ?_
  refine sk_S.iadd (dd DX6_speak 67 rfl) ?_
  refine sk_S.V (nI (dep + 1)) (nI_1 dep) ?_
  refine sk_S.callV (dd DX6_speak 68 rfl) rfl kX6_46 (cV_sy_2_2_2 (by simp only [List.length_cons, List.length_nil]; omega) (by omega) hV2) se_4 (by decide) rfl rfl rfl rfl (Nat.le_of_ble_eq_true rfl) (fun r124 h124 q124 => ?_)
  obtain ⟨x124, rfl⟩ := q124
  show sk_S _ _ _ _ _ _ (.int _ :: _) _ _
  refine sk_S.iret (dd DX6_speak 69 rfl) rfl rfl ?_
  exact ⟨xp.tr x124, rfl⟩
set_option maxRecDepth 100000 in
set_option maxHeartbeats 1000000 in
theorem cV_sy_2_2_3 {l : Launch} {E : sk_V} {d : Nat} {h : sk_M} {m x : Int32} {t n dep : Nat} (hn : n + 0 ≤ 30) (hd : dep + 0 ≤ 30) (hV : voI h 2 m t n) (hp : ¬ m - nI t = 0) : sk_K l E (d + 2) MX6_say [.ref 4, .int 13, .int (-1), .int x, .int (nI dep)] h (fun r h1 => tcQ h h1 n [] 0 ∧ some (.int (x / (m - nI t))) = r) := by
  refine sk_K.of (by decide +kernel) (Nat.le_of_ble_eq_true rfl) ?_
  show sk_S l E (d + 2) _ 0 [some (.ref 4), some (.int 13), some (.int (-1)), some (.int x), some (.int (nI dep))] [] h _
  refine sk_S.iload_n (i := 1) (dd DX6_say_p1 0 rfl) rfl rfl ?_
  · refine sk_S.lookup (off := 147) (dd DX6_say_p1 1 rfl) (by decide) (by decide) (tgt := 148) (by decide) ?_
    refine sk_S.aload_n (i := 0) (dd DX6_say_p1 28 rfl) rfl rfl ?_
    refine sk_S.iload_n (i := 3) (dd DX6_say_p1 29 rfl) rfl rfl ?_
    refine sk_S.callV (dd DX6_say_p1 30 rfl) rfl kX6_49 (cV_part hV hp) se_4 (by decide) rfl rfl rfl rfl (Nat.le_of_ble_eq_true rfl) (fun r150 h150 q150 => ?_)
    obtain ⟨x150, rfl⟩ := q150
    show sk_S _ _ _ _ _ _ (.int _ :: _) _ _
    refine sk_S.iret (dd DX6_say_p1 31 rfl) rfl rfl ?_
    exact ⟨x150, rfl⟩
set_option maxRecDepth 100000 in
set_option maxHeartbeats 1000000 in
theorem cV_sp_2_2_3 {l : Launch} {E : sk_V} {d : Nat} {h : sk_M} {m x : Int32} {t n dep : Nat} (hn : n + 1 ≤ 30) (hd : dep + 1 ≤ 30) (hV : voI h 2 m t n) (hp : ¬ m - nI t = 0) : sk_K l E (d + 3) MX6_speak [.ref 4, .int 2, .int 3, .int x, .int (nI dep)] h (fun r h1 => tcQ h h1 n [13] 0 ∧ some (.int (x / (m - nI t))) = r) := by
  refine sk_K.of (by decide +kernel) (Nat.le_of_ble_eq_true rfl) ?_
  show sk_S l E (d + 3) _ 0 [some (.ref 4), some (.int 2), some (.int 3), some (.int x), some (.int (nI dep)), none, none] [] h _
  refine sk_S.aload_n (i := 0) (dd DX6_speak 0 rfl) rfl rfl ?_
  refine sk_S.geti (dd DX6_speak 1 rfl) rfl fX6_32 se_4 (by decide) rfl ?_
  refine sk_S.if_eq (tgt := 9) (dd DX6_speak 2 rfl) (by decide) (fun c4 => ?_) (fun c4 => absurd hV.2.2.2.1 c4)
  refine sk_S.iload_n (i := 1) (dd DX6_speak 5 rfl) rfl rfl ?_
  refine sk_S.istore (i := 5) (dd DX6_speak 6 rfl) (Nat.le_of_ble_eq_true rfl) rfl ?_
  refine sk_S.iconst (v := 0) (dd DX6_speak 7 rfl) (by decide) ?_
  refine sk_S.istore (i := 6) (dd DX6_speak 8 rfl) (Nat.le_of_ble_eq_true rfl) rfl ?_
  refine sk_S.iload (i := 6) (dd DX6_speak 9 rfl) rfl ?_
  refine sk_S.bipush (v := 7) (dd DX6_speak 10 rfl) (by decide) ?_
  refine sk_S.icmp_ge (tgt := 54) (dd DX6_speak 11 rfl) (by decide) (fun c19 => absurd c19 (by decide)) (fun c19 => ?_)
  refine sk_S.iload (i := 5) (dd DX6_speak 12 rfl) rfl ?_
  refine sk_S.if_le (tgt := 54) (dd DX6_speak 13 rfl) (by decide) (fun c24 => absurd c24 (by decide)) (fun c24 => ?_)
  refine sk_S.gets (dd DX6_speak 14 rfl) rfl gsX6_40 ?_
  refine sk_S.iload (i := 5) (dd DX6_speak 15 rfl) rfl ?_
  refine sk_S.iconst (v := 4) (dd DX6_speak 16 rfl) (by decide) ?_
  refine sk_S.imul (dd DX6_speak 17 rfl) ?_
  refine sk_S.iload_n (i := 2) (dd DX6_speak 18 rfl) rfl rfl ?_
  refine sk_S.iadd (dd DX6_speak 19 rfl) ?_
  refine sk_S.roald (dd DX6_speak 20 rfl) rfl (j := 11) ⟨by decide, by decide, by decide⟩ rfl ?_
  refine sk_S.if_ne (tgt := 54) (dd DX6_speak 21 rfl) (by decide) (fun c37 => absurd (by decide) c37) (fun c37 => ?_)
  refine sk_S.gets (dd DX6_speak 22 rfl) rfl gsX6_43 ?_
  refine sk_S.iload (i := 5) (dd DX6_speak 23 rfl) rfl ?_
  refine sk_S.roald (dd DX6_speak 24 rfl) rfl (j := 2) ⟨by decide, by decide, by decide⟩ rfl ?_
  refine sk_S.istore (i := 5) (dd DX6_speak 25 rfl) (Nat.le_of_ble_eq_true rfl) rfl ?_
  refine sk_S.iinc (i := 6) (v := _ + 1) (dd DX6_speak 26 rfl) rfl rfl rfl ?_
  refine sk_S.goto (tgt := 15) (dd DX6_speak 27 rfl) (by decide) ?_
  refine sk_S.iload (i := 6) (dd DX6_speak 9 rfl) rfl ?_
  refine sk_S.bipush (v := 7) (dd DX6_speak 10 rfl) (by decide) ?_
  refine sk_S.icmp_ge (tgt := 54) (dd DX6_speak 11 rfl) (by decide) (fun c19 => absurd c19 (by decide)) (fun c19 => ?_)
  refine sk_S.iload (i := 5) (dd DX6_speak 12 rfl) rfl ?_
  refine sk_S.if_le (tgt := 54) (dd DX6_speak 13 rfl) (by decide) (fun c24 => ?_) (fun c24 => absurd (by decide) c24)
  refine sk_S.iload (i := 5) (dd DX6_speak 28 rfl) rfl ?_
  refine sk_S.if_lt (tgt := 66) (dd DX6_speak 29 rfl) (by decide) (fun c56 => absurd c56 (by decide)) (fun c56 => ?_)
  refine sk_S.iload (i := 4) (dd DX6_speak 30 rfl) rfl ?_
  refine sk_S.bipush (v := 30) (dd DX6_speak 31 rfl) (by decide) ?_
  refine sk_S.icmp_le (tgt := 68) (dd DX6_speak 32 rfl) (by decide) (fun c63 => ?_) (fun c63 => absurd (nI_le (b := 30) (by omega) (by decide)) c63)
  refine sk_S.gets (dd DX6_speak 35 rfl) rfl gsX6_40 ?_
  refine sk_S.iload (i := 5) (dd DX6_speak 36 rfl) rfl ?_
  refine sk_S.iconst (v := 4) (dd DX6_speak 37 rfl) (by decide) ?_
  refine sk_S.imul (dd DX6_speak 38 rfl) ?_
  refine sk_S.iload_n (i := 2) (dd DX6_speak 39 rfl) rfl rfl ?_
  refine sk_S.iadd (dd DX6_speak 40 rfl) ?_
  refine sk_S.roald (dd DX6_speak 41 rfl) rfl (j := 3) ⟨by decide, by decide, by decide⟩ rfl ?_
  refine sk_S.istore (i := 6) (dd DX6_speak 42 rfl) (Nat.le_of_ble_eq_true rfl) rfl ?_
  refine sk_S.aload_n (i := 0) (dd DX6_speak 43 rfl) rfl rfl ?_
  refine sk_S.geti (dd DX6_speak 44 rfl) rfl fX6_29 se_4 (by decide) rfl ?_
  refine sk_S.bipush (v := 30) (dd DX6_speak 45 rfl) (by decide) ?_
  refine sk_S.icmp_ge (tgt := 110) (dd DX6_speak 46 rfl) (by decide) (fun c86 => absurd c86 (by rw [hV.2.2.2.2]; exact nI_ge (b := 30) (by omega) (by decide))) (fun c86 => ?_)
  refine sk_S.aload_n (i := 0) (dd DX6_speak 47 rfl) rfl rfl ?_
  refine sk_S.getr (dd DX6_speak 48 rfl) rfl fX6_9 se_4 (by decide) rfl ?_
  refine sk_S.aload_n (i := 0) (dd DX6_speak 49 rfl) rfl rfl ?_
  refine sk_S.geti (dd DX6_speak 50 rfl) rfl fX6_29 se_4 (by decide) rfl ?_
  refine sk_S.iload (i := 6) (dd DX6_speak 51 rfl) rfl ?_
  refine sk_S.iast (dd DX6_speak 52 rfl) se_17 (sk_ix_nI (k := n) hV.2.2.2.2 (by omega) (by decide)) ?_
  refine sk_S.aload_n (i := 0) (dd DX6_speak 53 rfl) rfl rfl ?_
  refine sk_S.dup (dd DX6_speak 54 rfl) rfl ?_
  refine sk_S.geti (dd DX6_speak 55 rfl) rfl fX6_29 se_4 (by decide) rfl ?_
  refine sk_S.iconst (v := 1) (dd DX6_speak 56 rfl) (by decide) ?_
  refine sk_S.iadd (dd DX6_speak 57 rfl) ?_
  refine sk_S.putf (dd DX6_speak 58 rfl) rfl pX6_29 se_4 (by decide) rfl rfl rfl ?_
  have xp := pshC (b := 13) hV.2.2.2.2 hV.2.2.2.1
  have hV2 := hV.up xp
  refine sk_S.aload_n (i := 0) (dd DX6_speak 59 rfl) rfl rfl ?_
  refine sk_S.iload (i := 6) (dd DX6_speak 60 rfl) rfl ?_
  refine sk_S.gets (dd DX6_speak 61 rfl) rfl gsX6_43 ?_
  refine sk_S.iload (i := 5) (dd DX6_speak 62 rfl) rfl ?_
  refine sk_S.roald (dd DX6_speak 63 rfl) rfl (j := 0) ⟨by decide, by decide, by decide⟩ rfl ?_
  refine sk_S.iload_n (i := 3) (dd DX6_speak 64 rfl) rfl rfl ?_
  refine sk_S.iload (i := 4) (dd DX6_speak 65 rfl) rfl ?_
  refine sk_S.iconst (v := 1) (dd DX6_speak 66 rfl) (by decide) ?_
  refine sk_S.iadd (dd DX6_speak 67 rfl) ?_
  refine sk_S.V (nI (dep + 1)) (nI_1 dep) ?_
  refine sk_S.callV (dd DX6_speak 68 rfl) rfl kX6_46 (cV_sy_2_2_3 (by simp only [List.length_cons, List.length_nil]; omega) (by omega) hV2 hp) se_4 (by decide) rfl rfl rfl rfl (Nat.le_of_ble_eq_true rfl) (fun r124 h124 q124 => ?_)
  obtain ⟨x124, rfl⟩ := q124
  show sk_S _ _ _ _ _ _ (.int _ :: _) _ _
  refine sk_S.iret (dd DX6_speak 69 rfl) rfl rfl ?_
  exact ⟨xp.tr x124, rfl⟩
set_option maxRecDepth 100000 in
set_option maxHeartbeats 1000000 in
theorem cV_sy_2_2_3p {l : Launch} {E : sk_V} {d : Nat} {h : sk_M} {m x : Int32} {t n dep : Nat} (hn : n + 0 ≤ 30) (hd : dep + 0 ≤ 30) (hV : voI h 2 m t n) (hp : m - nI t = 0) : sk_K l E (d + 2) MX6_say [.ref 4, .int 13, .int (-1), .int x, .int (nI dep)] h (fun r h1 => tcQ h h1 n [] 1 ∧ some (.int (0 : Int32)) = r) := by
  refine sk_K.of (by decide +kernel) (Nat.le_of_ble_eq_true rfl) ?_
  show sk_S l E (d + 2) _ 0 [some (.ref 4), some (.int 13), some (.int (-1)), some (.int x), some (.int (nI dep))] [] h _
  refine sk_S.iload_n (i := 1) (dd DX6_say_p1 0 rfl) rfl rfl ?_
  · refine sk_S.lookup (off := 147) (dd DX6_say_p1 1 rfl) (by decide) (by decide) (tgt := 148) (by decide) ?_
    refine sk_S.aload_n (i := 0) (dd DX6_say_p1 28 rfl) rfl rfl ?_
    refine sk_S.iload_n (i := 3) (dd DX6_say_p1 29 rfl) rfl rfl ?_
    refine sk_S.callV (dd DX6_say_p1 30 rfl) rfl kX6_49 (cV_partP hV hp) se_4 (by decide) rfl rfl rfl rfl (Nat.le_of_ble_eq_true rfl) (fun r150 h150 q150 => ?_)
    obtain ⟨x150, rfl⟩ := q150
    show sk_S _ _ _ _ _ _ (.int _ :: _) _ _
    refine sk_S.iret (dd DX6_say_p1 31 rfl) rfl rfl ?_
    exact ⟨x150, rfl⟩
set_option maxRecDepth 100000 in
set_option maxHeartbeats 1000000 in
theorem cV_sp_2_2_3p {l : Launch} {E : sk_V} {d : Nat} {h : sk_M} {m x : Int32} {t n dep : Nat} (hn : n + 1 ≤ 30) (hd : dep + 1 ≤ 30) (hV : voI h 2 m t n) (hp : m - nI t = 0) : sk_K l E (d + 3) MX6_speak [.ref 4, .int 2, .int 3, .int x, .int (nI dep)] h (fun r h1 => tcQ h h1 n [13] 1 ∧ some (.int (0 : Int32)) = r) := by
  refine sk_K.of (by decide +kernel) (Nat.le_of_ble_eq_true rfl) ?_
  show sk_S l E (d + 3) _ 0 [some (.ref 4), some (.int 2), some (.int 3), some (.int x), some (.int (nI dep)), none, none] [] h _
  refine sk_S.aload_n (i := 0) (dd DX6_speak 0 rfl) rfl rfl ?_
  refine sk_S.geti (dd DX6_speak 1 rfl) rfl fX6_32 se_4 (by decide) rfl ?_
  refine sk_S.if_eq (tgt := 9) (dd DX6_speak 2 rfl) (by decide) (fun c4 => ?_) (fun c4 => absurd hV.2.2.2.1 c4)
  refine sk_S.iload_n (i := 1) (dd DX6_speak 5 rfl) rfl rfl ?_
  refine sk_S.istore (i := 5) (dd DX6_speak 6 rfl) (Nat.le_of_ble_eq_true rfl) rfl ?_
  refine sk_S.iconst (v := 0) (dd DX6_speak 7 rfl) (by decide) ?_
  refine sk_S.istore (i := 6) (dd DX6_speak 8 rfl) (Nat.le_of_ble_eq_true rfl) rfl ?_
  refine sk_S.iload (i := 6) (dd DX6_speak 9 rfl) rfl ?_
  refine sk_S.bipush (v := 7) (dd DX6_speak 10 rfl) (by decide) ?_
  refine sk_S.icmp_ge (tgt := 54) (dd DX6_speak 11 rfl) (by decide) (fun c19 => absurd c19 (by decide)) (fun c19 => ?_)
  refine sk_S.iload (i := 5) (dd DX6_speak 12 rfl) rfl ?_
  refine sk_S.if_le (tgt := 54) (dd DX6_speak 13 rfl) (by decide) (fun c24 => absurd c24 (by decide)) (fun c24 => ?_)
  refine sk_S.gets (dd DX6_speak 14 rfl) rfl gsX6_40 ?_
  refine sk_S.iload (i := 5) (dd DX6_speak 15 rfl) rfl ?_
  refine sk_S.iconst (v := 4) (dd DX6_speak 16 rfl) (by decide) ?_
  refine sk_S.imul (dd DX6_speak 17 rfl) ?_
  refine sk_S.iload_n (i := 2) (dd DX6_speak 18 rfl) rfl rfl ?_
  refine sk_S.iadd (dd DX6_speak 19 rfl) ?_
  refine sk_S.roald (dd DX6_speak 20 rfl) rfl (j := 11) ⟨by decide, by decide, by decide⟩ rfl ?_
  refine sk_S.if_ne (tgt := 54) (dd DX6_speak 21 rfl) (by decide) (fun c37 => absurd (by decide) c37) (fun c37 => ?_)
  refine sk_S.gets (dd DX6_speak 22 rfl) rfl gsX6_43 ?_
  refine sk_S.iload (i := 5) (dd DX6_speak 23 rfl) rfl ?_
  refine sk_S.roald (dd DX6_speak 24 rfl) rfl (j := 2) ⟨by decide, by decide, by decide⟩ rfl ?_
  refine sk_S.istore (i := 5) (dd DX6_speak 25 rfl) (Nat.le_of_ble_eq_true rfl) rfl ?_
  refine sk_S.iinc (i := 6) (v := _ + 1) (dd DX6_speak 26 rfl) rfl rfl rfl ?_
  refine sk_S.goto (tgt := 15) (dd DX6_speak 27 rfl) (by decide) ?_
  refine sk_S.iload (i := 6) (dd DX6_speak 9 rfl) rfl ?_
  refine sk_S.bipush (v := 7) (dd DX6_speak 10 rfl) (by decide) ?_
  refine sk_S.icmp_ge (tgt := 54) (dd DX6_speak 11 rfl) (by decide) (fun c19 => absurd c19 (by decide)) (fun c19 => ?_)
  refine sk_S.iload (i := 5) (dd DX6_speak 12 rfl) rfl ?_
  refine sk_S.if_le (tgt := 54) (dd DX6_speak 13 rfl) (by decide) (fun c24 => ?_) (fun c24 => absurd (by decide) c24)
  refine sk_S.iload (i := 5) (dd DX6_speak 28 rfl) rfl ?_
  refine sk_S.if_lt (tgt := 66) (dd DX6_speak 29 rfl) (by decide) (fun c56 => absurd c56 (by decide)) (fun c56 => ?_)
  refine sk_S.iload (i := 4) (dd DX6_speak 30 rfl) rfl ?_
  refine sk_S.bipush (v := 30) (dd DX6_speak 31 rfl) (by decide) ?_
  refine sk_S.icmp_le (tgt := 68) (dd DX6_speak 32 rfl) (by decide) (fun c63 => ?_) (fun c63 => absurd (nI_le (b := 30) (by omega) (by decide)) c63)
  refine sk_S.gets (dd DX6_speak 35 rfl) rfl gsX6_40 ?_
  refine sk_S.iload (i := 5) (dd DX6_speak 36 rfl) rfl ?_
  refine sk_S.iconst (v := 4) (dd DX6_speak 37 rfl) (by decide) ?_
  refine sk_S.imul (dd DX6_speak 38 rfl) ?_
  refine sk_S.iload_n (i := 2) (dd DX6_speak 39 rfl) rfl rfl ?_
  refine sk_S.iadd (dd DX6_speak 40 rfl) ?_
  refine sk_S.roald (dd DX6_speak 41 rfl) rfl (j := 3) ⟨by decide, by decide, by decide⟩ rfl ?_
  refine sk_S.istore (i := 6) (dd DX6_speak 42 rfl) (Nat.le_of_ble_eq_true rfl) rfl ?_
  refine sk_S.aload_n (i := 0) (dd DX6_speak 43 rfl) rfl rfl ?_
  refine sk_S.geti (dd DX6_speak 44 rfl) rfl fX6_29 se_4 (by decide) rfl ?_
  refine sk_S.bipush (v := 30) (dd DX6_speak 45 rfl) (by decide) ?_
  refine sk_S.icmp_ge (tgt := 110) (dd DX6_speak 46 rfl) (by decide) (fun c86 => absurd c86 (by rw [hV.2.2.2.2]; exact nI_ge (b := 30) (by omega) (by decide))) (fun c86 => ?_)
  refine sk_S.aload_n (i := 0) (dd DX6_speak 47 rfl) rfl rfl ?_
  refine sk_S.getr (dd DX6_speak 48 rfl) rfl fX6_9 se_4 (by decide) rfl ?_
  refine sk_S.aload_n (i := 0) (dd DX6_speak 49 rfl) rfl rfl ?_
  refine sk_S.geti (dd DX6_speak 50 rfl) rfl fX6_29 se_4 (by decide) rfl ?_
  refine sk_S.iload (i := 6) (dd DX6_speak 51 rfl) rfl ?_
  refine sk_S.iast (dd DX6_speak 52 rfl) se_17 (sk_ix_nI (k := n) hV.2.2.2.2 (by omega) (by decide)) ?_
  refine sk_S.aload_n (i := 0) (dd DX6_speak 53 rfl) rfl rfl ?_
  refine sk_S.dup (dd DX6_speak 54 rfl) rfl ?_
  refine sk_S.geti (dd DX6_speak 55 rfl) rfl fX6_29 se_4 (by decide) rfl ?_
  refine sk_S.iconst (v := 1) (dd DX6_speak 56 rfl) (by decide) ?_
  refine sk_S.iadd (dd DX6_speak 57 rfl) ?_
  refine sk_S.putf (dd DX6_speak 58 rfl) rfl pX6_29 se_4 (by decide) rfl rfl rfl ?_
  have xp := pshC (b := 13) hV.2.2.2.2 hV.2.2.2.1
  have hV2 := hV.up xp
  refine sk_S.aload_n (i := 0) (dd DX6_speak 59 rfl) rfl rfl ?_
  refine sk_S.iload (i := 6) (dd DX6_speak 60 rfl) rfl ?_
  refine sk_S.gets (dd DX6_speak 61 rfl) rfl gsX6_43 ?_
  refine sk_S.iload (i := 5) (dd DX6_speak 62 rfl) rfl ?_
  refine sk_S.roald (dd DX6_speak 63 rfl) rfl (j := 0) ⟨by decide, by decide, by decide⟩ rfl ?_
  refine sk_S.iload_n (i := 3) (dd DX6_speak 64 rfl) rfl rfl ?_
  refine sk_S.iload (i := 4) (dd DX6_speak 65 rfl) rfl ?_
  refine sk_S.iconst (v := 1) (dd DX6_speak 66 rfl) (by decide) ?_
  refine sk_S.iadd (dd DX6_speak 67 rfl) ?_
  refine sk_S.V (nI (dep + 1)) (nI_1 dep) ?_
  refine sk_S.callV (dd DX6_speak 68 rfl) rfl kX6_46 (cV_sy_2_2_3p (by simp only [List.length_cons, List.length_nil]; omega) (by omega) hV2 hp) se_4 (by decide) rfl rfl rfl rfl (Nat.le_of_ble_eq_true rfl) (fun r124 h124 q124 => ?_)
  obtain ⟨x124, rfl⟩ := q124
  show sk_S _ _ _ _ _ _ (.int _ :: _) _ _
  refine sk_S.iret (dd DX6_speak 69 rfl) rfl rfl ?_
  exact ⟨xp.tr x124, rfl⟩
set_option maxRecDepth 100000 in
set_option maxHeartbeats 1000000 in
theorem cV_sy_3_3_0 {l : Launch} {E : sk_V} {d : Nat} {h : sk_M} {m x : Int32} {t n dep : Nat} (hn : n + 0 ≤ 30) (hd : dep + 0 ≤ 30) (hV : voI h 3 m t n) : sk_K l E (d + 1) MX6_say [.ref 4, .int 10, .int (-1), .int x, .int (nI dep)] h (fun r h1 => tcQ h h1 n [] 0 ∧ some (.int (x + nI t)) = r) := by
  refine sk_K.of (by decide +kernel) (Nat.le_of_ble_eq_true rfl) ?_
  show sk_S l E (d + 1) _ 0 [some (.ref 4), some (.int 10), some (.int (-1)), some (.int x), some (.int (nI dep))] [] h _
  refine sk_S.iload_n (i := 1) (dd DX6_say_p1 0 rfl) rfl rfl ?_
  · refine sk_S.lookup (off := 107) (dd DX6_say_p1 1 rfl) (by decide) (by decide) (tgt := 108) (by decide) ?_
    refine sk_S.iload_n (i := 3) (dd DX6_say_p1 2 rfl) rfl rfl ?_
    refine sk_S.aload_n (i := 0) (dd DX6_say_p1 3 rfl) rfl rfl ?_
    refine sk_S.geti (dd DX6_say_p1 4 rfl) rfl fX6_26 se_4 (by decide) rfl ?_
    refine sk_S.V (nI t) hV.2.1 ?_
    refine sk_S.iadd (dd DX6_say_p1 5 rfl) ?_
    refine sk_S.iret (dd DX6_say_p1 6 rfl) rfl rfl ?_
    have e := tcQ.rf hV.2.2.2.2
    rw [hV.2.2.2.1] at e
    exact ⟨e, rfl⟩
set_option maxRecDepth 100000 in
set_option maxHeartbeats 1000000 in
theorem cV_sp_3_3_0 {l : Launch} {E : sk_V} {d : Nat} {h : sk_M} {m x : Int32} {t n dep : Nat} (hn : n + 1 ≤ 30) (hd : dep + 1 ≤ 30) (hV : voI h 3 m t n) : sk_K l E (d + 2) MX6_speak [.ref 4, .int 3, .int 0, .int x, .int (nI dep)] h (fun r h1 => tcQ h h1 n [10] 0 ∧ some (.int (x + nI t)) = r) := by
  refine sk_K.of (by decide +kernel) (Nat.le_of_ble_eq_true rfl) ?_
  show sk_S l E (d + 2) _ 0 [some (.ref 4), some (.int 3), some (.int 0), some (.int x), some (.int (nI dep)), none, none] [] h _
  refine sk_S.aload_n (i := 0) (dd DX6_speak 0 rfl) rfl rfl ?_
  refine sk_S.geti (dd DX6_speak 1 rfl) rfl fX6_32 se_4 (by decide) rfl ?_
  refine sk_S.if_eq (tgt := 9) (dd DX6_speak 2 rfl) (by decide) (fun c4 => ?_) (fun c4 => absurd hV.2.2.2.1 c4)
  refine sk_S.iload_n (i := 1) (dd DX6_speak 5 rfl) rfl rfl ?_
  refine sk_S.istore (i := 5) (dd DX6_speak 6 rfl) (Nat.le_of_ble_eq_true rfl) rfl ?_
  refine sk_S.iconst (v := 0) (dd DX6_speak 7 rfl) (by decide) ?_
  refine sk_S.istore (i := 6) (dd DX6_speak 8 rfl) (Nat.le_of_ble_eq_true rfl) rfl ?_
  refine sk_S.iload (i := 6) (dd DX6_speak 9 rfl) rfl ?_
  refine sk_S.bipush (v := 7) (dd DX6_speak 10 rfl) (by decide) ?_
  refine sk_S.icmp_ge (tgt := 54) (dd DX6_speak 11 rfl) (by decide) (fun c19 => absurd c19 (by decide)) (fun c19 => ?_)
  refine sk_S.iload (i := 5) (dd DX6_speak 12 rfl) rfl ?_
  refine sk_S.if_le (tgt := 54) (dd DX6_speak 13 rfl) (by decide) (fun c24 => absurd c24 (by decide)) (fun c24 => ?_)
  refine sk_S.gets (dd DX6_speak 14 rfl) rfl gsX6_40 ?_
  refine sk_S.iload (i := 5) (dd DX6_speak 15 rfl) rfl ?_
  refine sk_S.iconst (v := 4) (dd DX6_speak 16 rfl) (by decide) ?_
  refine sk_S.imul (dd DX6_speak 17 rfl) ?_
  refine sk_S.iload_n (i := 2) (dd DX6_speak 18 rfl) rfl rfl ?_
  refine sk_S.iadd (dd DX6_speak 19 rfl) ?_
  refine sk_S.roald (dd DX6_speak 20 rfl) rfl (j := 12) ⟨by decide, by decide, by decide⟩ rfl ?_
  refine sk_S.if_ne (tgt := 54) (dd DX6_speak 21 rfl) (by decide) (fun c37 => absurd (by decide) c37) (fun c37 => ?_)
  refine sk_S.gets (dd DX6_speak 22 rfl) rfl gsX6_43 ?_
  refine sk_S.iload (i := 5) (dd DX6_speak 23 rfl) rfl ?_
  refine sk_S.roald (dd DX6_speak 24 rfl) rfl (j := 3) ⟨by decide, by decide, by decide⟩ rfl ?_
  refine sk_S.istore (i := 5) (dd DX6_speak 25 rfl) (Nat.le_of_ble_eq_true rfl) rfl ?_
  refine sk_S.iinc (i := 6) (v := _ + 1) (dd DX6_speak 26 rfl) rfl rfl rfl ?_
  refine sk_S.goto (tgt := 15) (dd DX6_speak 27 rfl) (by decide) ?_
  refine sk_S.iload (i := 6) (dd DX6_speak 9 rfl) rfl ?_
  refine sk_S.bipush (v := 7) (dd DX6_speak 10 rfl) (by decide) ?_
  refine sk_S.icmp_ge (tgt := 54) (dd DX6_speak 11 rfl) (by decide) (fun c19 => absurd c19 (by decide)) (fun c19 => ?_)
  refine sk_S.iload (i := 5) (dd DX6_speak 12 rfl) rfl ?_
  refine sk_S.if_le (tgt := 54) (dd DX6_speak 13 rfl) (by decide) (fun c24 => ?_) (fun c24 => absurd (by decide) c24)
  refine sk_S.iload (i := 5) (dd DX6_speak 28 rfl) rfl ?_
  refine sk_S.if_lt (tgt := 66) (dd DX6_speak 29 rfl) (by decide) (fun c56 => absurd c56 (by decide)) (fun c56 => ?_)
  refine sk_S.iload (i := 4) (dd DX6_speak 30 rfl) rfl ?_
  refine sk_S.bipush (v := 30) (dd DX6_speak 31 rfl) (by decide) ?_
  refine sk_S.icmp_le (tgt := 68) (dd DX6_speak 32 rfl) (by decide) (fun c63 => ?_) (fun c63 => absurd (nI_le (b := 30) (by omega) (by decide)) c63)
  refine sk_S.gets (dd DX6_speak 35 rfl) rfl gsX6_40 ?_
  refine sk_S.iload (i := 5) (dd DX6_speak 36 rfl) rfl ?_
  refine sk_S.iconst (v := 4) (dd DX6_speak 37 rfl) (by decide) ?_
  refine sk_S.imul (dd DX6_speak 38 rfl) ?_
  refine sk_S.iload_n (i := 2) (dd DX6_speak 39 rfl) rfl rfl ?_
  refine sk_S.iadd (dd DX6_speak 40 rfl) ?_
  refine sk_S.roald (dd DX6_speak 41 rfl) rfl (j := 0) ⟨by decide, by decide, by decide⟩ rfl ?_
  refine sk_S.istore (i := 6) (dd DX6_speak 42 rfl) (Nat.le_of_ble_eq_true rfl) rfl ?_
  refine sk_S.aload_n (i := 0) (dd DX6_speak 43 rfl) rfl rfl ?_
  refine sk_S.geti (dd DX6_speak 44 rfl) rfl fX6_29 se_4 (by decide) rfl ?_
  refine sk_S.bipush (v := 30) (dd DX6_speak 45 rfl) (by decide) ?_
  refine sk_S.icmp_ge (tgt := 110) (dd DX6_speak 46 rfl) (by decide) (fun c86 => absurd c86 (by rw [hV.2.2.2.2]; exact nI_ge (b := 30) (by omega) (by decide))) (fun c86 => ?_)
  refine sk_S.aload_n (i := 0) (dd DX6_speak 47 rfl) rfl rfl ?_
  refine sk_S.getr (dd DX6_speak 48 rfl) rfl fX6_9 se_4 (by decide) rfl ?_
  refine sk_S.aload_n (i := 0) (dd DX6_speak 49 rfl) rfl rfl ?_
  refine sk_S.geti (dd DX6_speak 50 rfl) rfl fX6_29 se_4 (by decide) rfl ?_
  refine sk_S.iload (i := 6) (dd DX6_speak 51 rfl) rfl ?_
  refine sk_S.iast (dd DX6_speak 52 rfl) se_17 (sk_ix_nI (k := n) hV.2.2.2.2 (by omega) (by decide)) ?_
  refine sk_S.aload_n (i := 0) (dd DX6_speak 53 rfl) rfl rfl ?_
  refine sk_S.dup (dd DX6_speak 54 rfl) rfl ?_
  refine sk_S.geti (dd DX6_speak 55 rfl) rfl fX6_29 se_4 (by decide) rfl ?_
  refine sk_S.iconst (v := 1) (dd DX6_speak 56 rfl) (by decide) ?_
  refine sk_S.iadd (dd DX6_speak 57 rfl) ?_
  refine sk_S.putf (dd DX6_speak 58 rfl) rfl pX6_29 se_4 (by decide) rfl rfl rfl ?_
  have xp := pshC (b := 10) hV.2.2.2.2 hV.2.2.2.1
  have hV2 := hV.up xp
  refine sk_S.aload_n (i := 0) (dd DX6_speak 59 rfl) rfl rfl ?_
  refine sk_S.iload (i := 6) (dd DX6_speak 60 rfl) rfl ?_
  refine sk_S.gets (dd DX6_speak 61 rfl) rfl gsX6_43 ?_
  refine sk_S.iload (i := 5) (dd DX6_speak 62 rfl) rfl ?_
  refine sk_S.roald (dd DX6_speak 63 rfl) rfl (j := 0) ⟨by decide, by decide, by decide⟩ rfl ?_
  refine sk_S.iload_n (i := 3) (dd DX6_speak 64 rfl) rfl rfl ?_
  refine sk_S.iload (i := 4) (dd DX6_speak 65 rfl) rfl ?_
  refine sk_S.iconst (v := 1) (dd DX6_speak 66 rfl) (by decide) ?_
  refine sk_S.iadd (dd DX6_speak 67 rfl) ?_
  refine sk_S.V (nI (dep + 1)) (nI_1 dep) ?_
  refine sk_S.callV (dd DX6_speak 68 rfl) rfl kX6_46 (cV_sy_3_3_0 (by simp only [List.length_cons, List.length_nil]; omega) (by omega) hV2) se_4 (by decide) rfl rfl rfl rfl (Nat.le_of_ble_eq_true rfl) (fun r124 h124 q124 => ?_)
  obtain ⟨x124, rfl⟩ := q124
  show sk_S _ _ _ _ _ _ (.int _ :: _) _ _
  refine sk_S.iret (dd DX6_speak 69 rfl) rfl rfl ?_
  exact ⟨xp.tr x124, rfl⟩
set_option maxRecDepth 100000 in
set_option maxHeartbeats 1000000 in
theorem cV_sy_3_3_1 {l : Launch} {E : sk_V} {d : Nat} {h : sk_M} {m x : Int32} {t n dep : Nat} (hn : n + 1 ≤ 30) (hd : dep + 1 ≤ 30) (hV : voI h 3 m t n) : sk_K l E (d + 4) MX6_say [.ref 4, .int 11, .int (-1), .int x, .int (nI dep)] h (fun r h1 => tcQ h h1 n [10] 0 ∧ some (.int ((x + nI t) * 2)) = r) := by
  refine sk_K.of (by decide +kernel) (Nat.le_of_ble_eq_true rfl) ?_
  show sk_S l E (d + 4) _ 0 [some (.ref 4), some (.int 11), some (.int (-1)), some (.int x), some (.int (nI dep))] [] h _
  refine sk_S.iload_n (i := 1) (dd DX6_say_p1 0 rfl) rfl rfl ?_
  · refine sk_S.lookup (off := 114) (dd DX6_say_p1 1 rfl) (by decide) (by decide) (tgt := 115) (by decide) ?_
    refine sk_S.aload_n (i := 0) (dd DX6_say_p1 7 rfl) rfl rfl ?_
    refine sk_S.aload_n (i := 0) (dd DX6_say_p1 8 rfl) rfl rfl ?_
    refine sk_S.geti (dd DX6_say_p1 9 rfl) rfl fX6_21 se_4 (by decide) rfl ?_
    refine sk_S.V 3 hV.1 ?_
    refine sk_S.iconst (v := 0) (dd DX6_say_p1 10 rfl) (by decide) ?_
    refine sk_S.iload_n (i := 3) (dd DX6_say_p1 11 rfl) rfl rfl ?_
    refine sk_S.iload (i := 4) (dd DX6_say_p1 12 rfl) rfl ?_
    refine sk_S.callV (dd DX6_say_p1 13 rfl) rfl kX6_36 (cV_sp_3_3_0 (x := x) (by omega) (by omega) hV) se_4 (by decide) rfl rfl rfl rfl (Nat.le_of_ble_eq_true rfl) (fun r124 h124 q124 => ?_)
    obtain ⟨x124, rfl⟩ := q124
    show sk_S _ _ _ _ _ _ (.int _ :: _) _ _
    refine sk_S.iconst (v := 2) (dd DX6_say_p1 14 rfl) (by decide) ?_
    refine sk_S.imul (dd DX6_say_p1 15 rfl) ?_
    refine sk_S.iret (dd DX6_say_p1 16 rfl) rfl rfl ?_
    exact ⟨x124, rfl⟩
set_option maxRecDepth 100000 in
set_option maxHeartbeats 1000000 in
theorem cV_sp_3_3_1 {l : Launch} {E : sk_V} {d : Nat} {h : sk_M} {m x : Int32} {t n dep : Nat} (hn : n + 2 ≤ 30) (hd : dep + 2 ≤ 30) (hV : voI h 3 m t n) : sk_K l E (d + 5) MX6_speak [.ref 4, .int 3, .int 1, .int x, .int (nI dep)] h (fun r h1 => tcQ h h1 n [11, 10] 0 ∧ some (.int ((x + nI t) * 2)) = r) := by
  refine sk_K.of (by decide +kernel) (Nat.le_of_ble_eq_true rfl) ?_
  show sk_S l E (d + 5) _ 0 [some (.ref 4), some (.int 3), some (.int 1), some (.int x), some (.int (nI dep)), none, none] [] h _
  refine sk_S.aload_n (i := 0) (dd DX6_speak 0 rfl) rfl rfl ?_
  refine sk_S.geti (dd DX6_speak 1 rfl) rfl fX6_32 se_4 (by decide) rfl ?_
  refine sk_S.if_eq (tgt := 9) (dd DX6_speak 2 rfl) (by decide) (fun c4 => ?_) (fun c4 => absurd hV.2.2.2.1 c4)
  refine sk_S.iload_n (i := 1) (dd DX6_speak 5 rfl) rfl rfl ?_
  refine sk_S.istore (i := 5) (dd DX6_speak 6 rfl) (Nat.le_of_ble_eq_true rfl) rfl ?_
  refine sk_S.iconst (v := 0) (dd DX6_speak 7 rfl) (by decide) ?_
  refine sk_S.istore (i := 6) (dd DX6_speak 8 rfl) (Nat.le_of_ble_eq_true rfl) rfl ?_
  refine sk_S.iload (i := 6) (dd DX6_speak 9 rfl) rfl ?_
  refine sk_S.bipush (v := 7) (dd DX6_speak 10 rfl) (by decide) ?_
  refine sk_S.icmp_ge (tgt := 54) (dd DX6_speak 11 rfl) (by decide) (fun c19 => absurd c19 (by decide)) (fun c19 => ?_)
  refine sk_S.iload (i := 5) (dd DX6_speak 12 rfl) rfl ?_
  refine sk_S.if_le (tgt := 54) (dd DX6_speak 13 rfl) (by decide) (fun c24 => absurd c24 (by decide)) (fun c24 => ?_)
  refine sk_S.gets (dd DX6_speak 14 rfl) rfl gsX6_40 ?_
  refine sk_S.iload (i := 5) (dd DX6_speak 15 rfl) rfl ?_
  refine sk_S.iconst (v := 4) (dd DX6_speak 16 rfl) (by decide) ?_
  refine sk_S.imul (dd DX6_speak 17 rfl) ?_
  refine sk_S.iload_n (i := 2) (dd DX6_speak 18 rfl) rfl rfl ?_
  refine sk_S.iadd (dd DX6_speak 19 rfl) ?_
  refine sk_S.roald (dd DX6_speak 20 rfl) rfl (j := 13) ⟨by decide, by decide, by decide⟩ rfl ?_
  refine sk_S.if_ne (tgt := 54) (dd DX6_speak 21 rfl) (by decide) (fun c37 => absurd (by decide) c37) (fun c37 => ?_)
  refine sk_S.gets (dd DX6_speak 22 rfl) rfl gsX6_43 ?_
  refine sk_S.iload (i := 5) (dd DX6_speak 23 rfl) rfl ?_
  refine sk_S.roald (dd DX6_speak 24 rfl) rfl (j := 3) ⟨by decide, by decide, by decide⟩ rfl ?_
  refine sk_S.istore (i := 5) (dd DX6_speak 25 rfl) (Nat.le_of_ble_eq_true rfl) rfl ?_
  refine sk_S.iinc (i := 6) (v := _ + 1) (dd DX6_speak 26 rfl) rfl rfl rfl ?_
  refine sk_S.goto (tgt := 15) (dd DX6_speak 27 rfl) (by decide) ?_
  refine sk_S.iload (i := 6) (dd DX6_speak 9 rfl) rfl ?_
  refine sk_S.bipush (v := 7) (dd DX6_speak 10 rfl) (by decide) ?_
  refine sk_S.icmp_ge (tgt := 54) (dd DX6_speak 11 rfl) (by decide) (fun c19 => absurd c19 (by decide)) (fun c19 => ?_)
  refine sk_S.iload (i := 5) (dd DX6_speak 12 rfl) rfl ?_
  refine sk_S.if_le (tgt := 54) (dd DX6_speak 13 rfl) (by decide) (fun c24 => ?_) (fun c24 => absurd (by decide) c24)
  refine sk_S.iload (i := 5) (dd DX6_speak 28 rfl) rfl ?_
  refine sk_S.if_lt (tgt := 66) (dd DX6_speak 29 rfl) (by decide) (fun c56 => absurd c56 (by decide)) (fun c56 => ?_)
  refine sk_S.iload (i := 4) (dd DX6_speak 30 rfl) rfl ?_
  refine sk_S.bipush (v := 30) (dd DX6_speak 31 rfl) (by decide) ?_
  refine sk_S.icmp_le (tgt := 68) (dd DX6_speak 32 rfl) (by decide) (fun c63 => ?_) (fun c63 => absurd (nI_le (b := 30) (by omega) (by decide)) c63)
  refine sk_S.gets (dd DX6_speak 35 rfl) rfl gsX6_40 ?_
  refine sk_S.iload (i := 5) (dd DX6_speak 36 rfl) rfl ?_
  refine sk_S.iconst (v := 4) (dd DX6_speak 37 rfl) (by decide) ?_
  refine sk_S.imul (dd DX6_speak 38 rfl) ?_
  refine sk_S.iload_n (i := 2) (dd DX6_speak 39 rfl) rfl rfl ?_
  refine sk_S.iadd (dd DX6_speak 40 rfl) ?_
  refine sk_S.roald (dd DX6_speak 41 rfl) rfl (j := 1) ⟨by decide, by decide, by decide⟩ rfl ?_
  refine sk_S.istore (i := 6) (dd DX6_speak 42 rfl) (Nat.le_of_ble_eq_true rfl) rfl ?_
  refine sk_S.aload_n (i := 0) (dd DX6_speak 43 rfl) rfl rfl ?_
  refine sk_S.geti (dd DX6_speak 44 rfl) rfl fX6_29 se_4 (by decide) rfl ?_
  refine sk_S.bipush (v := 30) (dd DX6_speak 45 rfl) (by decide) ?_
  refine sk_S.icmp_ge (tgt := 110) (dd DX6_speak 46 rfl) (by decide) (fun c86 => absurd c86 (by rw [hV.2.2.2.2]; exact nI_ge (b := 30) (by omega) (by decide))) (fun c86 => ?_)
  refine sk_S.aload_n (i := 0) (dd DX6_speak 47 rfl) rfl rfl ?_
  refine sk_S.getr (dd DX6_speak 48 rfl) rfl fX6_9 se_4 (by decide) rfl ?_
  refine sk_S.aload_n (i := 0) (dd DX6_speak 49 rfl) rfl rfl ?_
  refine sk_S.geti (dd DX6_speak 50 rfl) rfl fX6_29 se_4 (by decide) rfl ?_
  refine sk_S.iload (i := 6) (dd DX6_speak 51 rfl) rfl ?_
  refine sk_S.iast (dd DX6_speak 52 rfl) se_17 (sk_ix_nI (k := n) hV.2.2.2.2 (by omega) (by decide)) ?_
  refine sk_S.aload_n (i := 0) (dd DX6_speak 53 rfl) rfl rfl ?_
  refine sk_S.dup (dd DX6_speak 54 rfl) rfl ?_
  refine sk_S.geti (dd DX6_speak 55 rfl) rfl fX6_29 se_4 (by decide) rfl ?_
  refine sk_S.iconst (v := 1) (dd DX6_speak 56 rfl) (by decide) ?_
  refine sk_S.iadd (dd DX6_speak 57 rfl) ?_
  refine sk_S.putf (dd DX6_speak 58 rfl) rfl pX6_29 se_4 (by decide) rfl rfl rfl ?_
  have xp := pshC (b := 11) hV.2.2.2.2 hV.2.2.2.1
  have hV2 := hV.up xp
  refine sk_S.aload_n (i := 0) (dd DX6_speak 59 rfl) rfl rfl ?_
  refine sk_S.iload (i := 6) (dd DX6_speak 60 rfl) rfl ?_
  refine sk_S.gets (dd DX6_speak 61 rfl) rfl gsX6_43 ?_
  refine sk_S.iload (i := 5) (dd DX6_speak 62 rfl) rfl ?_
  refine sk_S.roald (dd DX6_speak 63 rfl) rfl (j := 0) ⟨by decide, by decide, by decide⟩ rfl ?_
  refine sk_S.iload_n (i := 3) (dd DX6_speak 64 rfl) rfl rfl ?_
  refine sk_S.iload (i := 4) (dd DX6_speak 65 rfl) rfl ?_
  refine sk_S.iconst (v := 1) (dd DX6_speak 66 rfl) (by decide) ?_
  refine sk_S.iadd (dd DX6_speak 67 rfl) ?_
  refine sk_S.V (nI (dep + 1)) (nI_1 dep) ?_
  refine sk_S.callV (dd DX6_speak 68 rfl) rfl kX6_46 (cV_sy_3_3_1 (by simp only [List.length_cons, List.length_nil]; omega) (by omega) hV2) se_4 (by decide) rfl rfl rfl rfl (Nat.le_of_ble_eq_true rfl) (fun r124 h124 q124 => ?_)
  obtain ⟨x124, rfl⟩ := q124
  show sk_S _ _ _ _ _ _ (.int _ :: _) _ _
  refine sk_S.iret (dd DX6_speak 69 rfl) rfl rfl ?_
  exact ⟨xp.tr x124, rfl⟩
set_option maxRecDepth 100000 in
set_option maxHeartbeats 1000000 in
theorem cV_sy_3_0_2 {l : Launch} {E : sk_V} {d : Nat} {h : sk_M} {m x : Int32} {t n dep : Nat} (hn : n + 2 ≤ 30) (hd : dep + 2 ≤ 30) (hV : voI h 3 m t n) : sk_K l E (d + 7) MX6_say [.ref 4, .int 12, .int (-1), .int x, .int (nI dep)] h (fun r h1 => tcQ h h1 n [11, 10] 0 ∧ some (.int (((x + nI t) * 2) - m)) = r) := by
  refine sk_K.of (by decide +kernel) (Nat.le_of_ble_eq_true rfl) ?_
  show sk_S l E (d + 7) _ 0 [some (.ref 4), some (.int 12), some (.int (-1)), some (.int x), some (.int (nI dep))] [] h _
  refine sk_S.iload_n (i := 1) (dd DX6_say_p1 0 rfl) rfl rfl ?_
  · refine sk_S.lookup (off := 129) (dd DX6_say_p1 1 rfl) (by decide) (by decide) (tgt := 130) (by decide) ?_
    refine sk_S.aload_n (i := 0) (dd DX6_say_p1 17 rfl) rfl rfl ?_
    refine sk_S.aload_n (i := 0) (dd DX6_say_p1 18 rfl) rfl rfl ?_
    refine sk_S.geti (dd DX6_say_p1 19 rfl) rfl fX6_21 se_4 (by decide) rfl ?_
    refine sk_S.V 3 hV.1 ?_
    refine sk_S.iconst (v := 1) (dd DX6_say_p1 20 rfl) (by decide) ?_
    refine sk_S.iload_n (i := 3) (dd DX6_say_p1 21 rfl) rfl rfl ?_
    refine sk_S.iload (i := 4) (dd DX6_say_p1 22 rfl) rfl ?_
    refine sk_S.callV (dd DX6_say_p1 23 rfl) rfl kX6_36 (cV_sp_3_3_1 (x := x) (by omega) (by omega) hV) se_4 (by decide) rfl rfl rfl rfl (Nat.le_of_ble_eq_true rfl) (fun r139 h139 q139 => ?_)
    obtain ⟨x139, rfl⟩ := q139
    show sk_S _ _ _ _ _ _ (.int _ :: _) _ _
    refine sk_S.aload_n (i := 0) (dd DX6_say_p1 24 rfl) rfl rfl ?_
    refine sk_S.geti (dd DX6_say_p1 25 rfl) rfl fX6_25 se_4 (by decide) rfl ?_
    refine sk_S.V m ((x139.2.2.2.1 5 (by decide) (by decide)).trans hV.2.2.1) ?_
    refine sk_S.isub (dd DX6_say_p1 26 rfl) ?_
    refine sk_S.iret (dd DX6_say_p1 27 rfl) rfl rfl ?_
    exact ⟨x139, rfl⟩
set_option maxRecDepth 100000 in
set_option maxHeartbeats 1000000 in
theorem cV_sp_3_0_2 {l : Launch} {E : sk_V} {d : Nat} {h : sk_M} {m x : Int32} {t n dep : Nat} (hn : n + 3 ≤ 30) (hd : dep + 3 ≤ 30) (hV : voI h 3 m t n) : sk_K l E (d + 8) MX6_speak [.ref 4, .int 0, .int 2, .int x, .int (nI dep)] h (fun r h1 => tcQ h h1 n [12, 11, 10] 0 ∧ some (.int (((x + nI t) * 2) - m)) = r) := by
  refine sk_K.of (by decide +kernel) (Nat.le_of_ble_eq_true rfl) ?_
  show sk_S l E (d + 8) _ 0 [some (.ref 4), some (.int 0), some (.int 2), some (.int x), some (.int (nI dep)), none, none] [] h _
  refine sk_S.aload_n (i := 0) (dd DX6_speak 0 rfl) rfl rfl ?_
  refine sk_S.geti (dd DX6_speak 1 rfl) rfl fX6_32 se_4 (by decide) rfl ?_
  refine sk_S.if_eq (tgt := 9) (dd DX6_speak 2 rfl) (by decide) (fun c4 => ?_) (fun c4 => absurd hV.2.2.2.1 c4)
  refine sk_S.iload_n (i := 1) (dd DX6_speak 5 rfl) rfl rfl ?_
  refine sk_S.istore (i := 5) (dd DX6_speak 6 rfl) (Nat.le_of_ble_eq_true rfl) rfl ?_
  refine sk_S.iconst (v := 0) (dd DX6_speak 7 rfl) (by decide) ?_
  refine sk_S.istore (i := 6) (dd DX6_speak 8 rfl) (Nat.le_of_ble_eq_true rfl) rfl ?_
  refine sk_S.iload (i := 6) (dd DX6_speak 9 rfl) rfl ?_
  refine sk_S.bipush (v := 7) (dd DX6_speak 10 rfl) (by decide) ?_
  refine sk_S.icmp_ge (tgt := 54) (dd DX6_speak 11 rfl) (by decide) (fun c19 => absurd c19 (by decide)) (fun c19 => ?_)
  refine sk_S.iload (i := 5) (dd DX6_speak 12 rfl) rfl ?_
  refine sk_S.if_le (tgt := 54) (dd DX6_speak 13 rfl) (by decide) (fun c24 => ?_) (fun c24 => absurd (by decide) c24)
  refine sk_S.iload (i := 5) (dd DX6_speak 28 rfl) rfl ?_
  refine sk_S.if_lt (tgt := 66) (dd DX6_speak 29 rfl) (by decide) (fun c56 => absurd c56 (by decide)) (fun c56 => ?_)
  refine sk_S.iload (i := 4) (dd DX6_speak 30 rfl) rfl ?_
  refine sk_S.bipush (v := 30) (dd DX6_speak 31 rfl) (by decide) ?_
  refine sk_S.icmp_le (tgt := 68) (dd DX6_speak 32 rfl) (by decide) (fun c63 => ?_) (fun c63 => absurd (nI_le (b := 30) (by omega) (by decide)) c63)
  refine sk_S.gets (dd DX6_speak 35 rfl) rfl gsX6_40 ?_
  refine sk_S.iload (i := 5) (dd DX6_speak 36 rfl) rfl ?_
  refine sk_S.iconst (v := 4) (dd DX6_speak 37 rfl) (by decide) ?_
  refine sk_S.imul (dd DX6_speak 38 rfl) ?_
  refine sk_S.iload_n (i := 2) (dd DX6_speak 39 rfl) rfl rfl ?_
  refine sk_S.iadd (dd DX6_speak 40 rfl) ?_
  refine sk_S.roald (dd DX6_speak 41 rfl) rfl (j := 2) ⟨by decide, by decide, by decide⟩ rfl ?_
  refine sk_S.istore (i := 6) (dd DX6_speak 42 rfl) (Nat.le_of_ble_eq_true rfl) rfl ?_
  refine sk_S.aload_n (i := 0) (dd DX6_speak 43 rfl) rfl rfl ?_
  refine sk_S.geti (dd DX6_speak 44 rfl) rfl fX6_29 se_4 (by decide) rfl ?_
  refine sk_S.bipush (v := 30) (dd DX6_speak 45 rfl) (by decide) ?_
  refine sk_S.icmp_ge (tgt := 110) (dd DX6_speak 46 rfl) (by decide) (fun c86 => absurd c86 (by rw [hV.2.2.2.2]; exact nI_ge (b := 30) (by omega) (by decide))) (fun c86 => ?_)
  refine sk_S.aload_n (i := 0) (dd DX6_speak 47 rfl) rfl rfl ?_
  refine sk_S.getr (dd DX6_speak 48 rfl) rfl fX6_9 se_4 (by decide) rfl ?_
  refine sk_S.aload_n (i := 0) (dd DX6_speak 49 rfl) rfl rfl ?_
  refine sk_S.geti (dd DX6_speak 50 rfl) rfl fX6_29 se_4 (by decide) rfl ?_
  refine sk_S.iload (i := 6) (dd DX6_speak 51 rfl) rfl ?_
  refine sk_S.iast (dd DX6_speak 52 rfl) se_17 (sk_ix_nI (k := n) hV.2.2.2.2 (by omega) (by decide)) ?_
  refine sk_S.aload_n (i := 0) (dd DX6_speak 53 rfl) rfl rfl ?_
  refine sk_S.dup (dd DX6_speak 54 rfl) rfl ?_
  refine sk_S.geti (dd DX6_speak 55 rfl) rfl fX6_29 se_4 (by decide) rfl ?_
  refine sk_S.iconst (v := 1) (dd DX6_speak 56 rfl) (by decide) ?_
  refine sk_S.iadd (dd DX6_speak 57 rfl) ?_
  refine sk_S.putf (dd DX6_speak 58 rfl) rfl pX6_29 se_4 (by decide) rfl rfl rfl ?_
  have xp := pshC (b := 12) hV.2.2.2.2 hV.2.2.2.1
  have hV2 := hV.up xp
  refine sk_S.aload_n (i := 0) (dd DX6_speak 59 rfl) rfl rfl ?_
  refine sk_S.iload (i := 6) (dd DX6_speak 60 rfl) rfl ?_
  refine sk_S.gets (dd DX6_speak 61 rfl) rfl gsX6_43 ?_
  refine sk_S.iload (i := 5) (dd DX6_speak 62 rfl) rfl ?_
  refine sk_S.roald (dd DX6_speak 63 rfl) rfl (j := 0) ⟨by decide, by decide, by decide⟩ rfl ?_
  refine sk_S.iload_n (i := 3) (dd DX6_speak 64 rfl) rfl rfl ?_
  refine sk_S.iload (i := 4) (dd DX6_speak 65 rfl) rfl ?_
  refine sk_S.iconst (v := 1) (dd DX6_speak 66 rfl) (by decide) ?_
  refine sk_S.iadd (dd DX6_speak 67 rfl) ?_
  refine sk_S.V (nI (dep + 1)) (nI_1 dep) ?_
  refine sk_S.callV (dd DX6_speak 68 rfl) rfl kX6_46 (cV_sy_3_0_2 (by simp only [List.length_cons, List.length_nil]; omega) (by omega) hV2) se_4 (by decide) rfl rfl rfl rfl (Nat.le_of_ble_eq_true rfl) (fun r124 h124 q124 => ?_)
  obtain ⟨x124, rfl⟩ := q124
  show sk_S _ _ _ _ _ _ (.int _ :: _) _ _
  refine sk_S.iret (dd DX6_speak 69 rfl) rfl rfl ?_
  exact ⟨xp.tr x124, rfl⟩
set_option maxRecDepth 100000 in
set_option maxHeartbeats 1000000 in
theorem cV_sy_3_3_2 {l : Launch} {E : sk_V} {d : Nat} {h : sk_M} {m x : Int32} {t n dep : Nat} (hn : n + 3 ≤ 30) (hd : dep + 3 ≤ 30) (hV : voI h 3 m t n) : sk_K l E (d + 10) MX6_say [.ref 4, .int 40, .int 0, .int x, .int (nI dep)] h (fun r h1 => tcQ h h1 n [12, 11, 10] 0 ∧ some (.int ((((x / 2) + nI t) * 2) - m)) = r) := by
  refine sk_K.of (by decide +kernel) (Nat.le_of_ble_eq_true rfl) ?_
  show sk_S l E (d + 10) _ 0 [some (.ref 4), some (.int 40), some (.int 0), some (.int x), some (.int (nI dep))] [] h _
  refine sk_S.iload_n (i := 1) (dd DX6_say_p1 0 rfl) rfl rfl ?_
  · refine sk_S.lookup (off := 200) (dd DX6_say_p1 1 rfl) (by decide) (by decide) (tgt := 201) (by decide) ?_
    refine sk_S.aload_n (i := 0) (dd DX6_say_p1 65 rfl) rfl rfl ?_
    refine sk_S.iload_n (i := 2) (dd DX6_say_p1 66 rfl) rfl rfl ?_
    refine sk_S.iconst (v := 2) (dd DX6_say_p1 67 rfl) (by decide) ?_
    refine sk_S.iload_n (i := 3) (dd DX6_say_p1 68 rfl) rfl rfl ?_
    refine sk_S.iconst (v := 2) (dd DX6_say_p1 69 rfl) (by decide) ?_
    refine sk_S.idiv (dd DX6_say_p1 70 rfl) (by decide) ?_
    refine sk_S.iload (i := 4) (dd DX6_say_p1 71 rfl) rfl ?_
    refine sk_S.callV (dd DX6_say_p1 72 rfl) rfl kX6_36 (cV_sp_3_0_2 (x := (x / 2)) (by omega) (by omega) hV) se_4 (by decide) rfl rfl rfl rfl (Nat.le_of_ble_eq_true rfl) (fun r209 h209 q209 => ?_)
    obtain ⟨x209, rfl⟩ := q209
    show sk_S _ _ _ _ _ _ (.int _ :: _) _ _
    refine sk_S.iret (dd DX6_say_p1 73 rfl) rfl rfl ?_
    exact ⟨x209, rfl⟩
set_option maxRecDepth 100000 in
set_option maxHeartbeats 1000000 in
theorem cV_sp_3_3_2 {l : Launch} {E : sk_V} {d : Nat} {h : sk_M} {m x : Int32} {t n dep : Nat} (hn : n + 4 ≤ 30) (hd : dep + 4 ≤ 30) (hV : voI h 3 m t n) : sk_K l E (d + 11) MX6_speak [.ref 4, .int 3, .int 2, .int x, .int (nI dep)] h (fun r h1 => tcQ h h1 n [40, 12, 11, 10] 0 ∧ some (.int ((((x / 2) + nI t) * 2) - m)) = r) := by
  refine sk_K.of (by decide +kernel) (Nat.le_of_ble_eq_true rfl) ?_
  show sk_S l E (d + 11) _ 0 [some (.ref 4), some (.int 3), some (.int 2), some (.int x), some (.int (nI dep)), none, none] [] h _
  refine sk_S.aload_n (i := 0) (dd DX6_speak 0 rfl) rfl rfl ?_
  refine sk_S.geti (dd DX6_speak 1 rfl) rfl fX6_32 se_4 (by decide) rfl ?_
  refine sk_S.if_eq (tgt := 9) (dd DX6_speak 2 rfl) (by decide) (fun c4 => ?_) (fun c4 => absurd hV.2.2.2.1 c4)
  refine sk_S.iload_n (i := 1) (dd DX6_speak 5 rfl) rfl rfl ?_
  refine sk_S.istore (i := 5) (dd DX6_speak 6 rfl) (Nat.le_of_ble_eq_true rfl) rfl ?_
  refine sk_S.iconst (v := 0) (dd DX6_speak 7 rfl) (by decide) ?_
  refine sk_S.istore (i := 6) (dd DX6_speak 8 rfl) (Nat.le_of_ble_eq_true rfl) rfl ?_
  refine sk_S.iload (i := 6) (dd DX6_speak 9 rfl) rfl ?_
  refine sk_S.bipush (v := 7) (dd DX6_speak 10 rfl) (by decide) ?_
  refine sk_S.icmp_ge (tgt := 54) (dd DX6_speak 11 rfl) (by decide) (fun c19 => absurd c19 (by decide)) (fun c19 => ?_)
  refine sk_S.iload (i := 5) (dd DX6_speak 12 rfl) rfl ?_
  refine sk_S.if_le (tgt := 54) (dd DX6_speak 13 rfl) (by decide) (fun c24 => absurd c24 (by decide)) (fun c24 => ?_)
  refine sk_S.gets (dd DX6_speak 14 rfl) rfl gsX6_40 ?_
  refine sk_S.iload (i := 5) (dd DX6_speak 15 rfl) rfl ?_
  refine sk_S.iconst (v := 4) (dd DX6_speak 16 rfl) (by decide) ?_
  refine sk_S.imul (dd DX6_speak 17 rfl) ?_
  refine sk_S.iload_n (i := 2) (dd DX6_speak 18 rfl) rfl rfl ?_
  refine sk_S.iadd (dd DX6_speak 19 rfl) ?_
  refine sk_S.roald (dd DX6_speak 20 rfl) rfl (j := 14) ⟨by decide, by decide, by decide⟩ rfl ?_
  refine sk_S.if_ne (tgt := 54) (dd DX6_speak 21 rfl) (by decide) (fun c37 => ?_) (fun c37 => absurd c37 (by decide))
  refine sk_S.iload (i := 5) (dd DX6_speak 28 rfl) rfl ?_
  refine sk_S.if_lt (tgt := 66) (dd DX6_speak 29 rfl) (by decide) (fun c56 => absurd c56 (by decide)) (fun c56 => ?_)
  refine sk_S.iload (i := 4) (dd DX6_speak 30 rfl) rfl ?_
  refine sk_S.bipush (v := 30) (dd DX6_speak 31 rfl) (by decide) ?_
  refine sk_S.icmp_le (tgt := 68) (dd DX6_speak 32 rfl) (by decide) (fun c63 => ?_) (fun c63 => absurd (nI_le (b := 30) (by omega) (by decide)) c63)
  refine sk_S.gets (dd DX6_speak 35 rfl) rfl gsX6_40 ?_
  refine sk_S.iload (i := 5) (dd DX6_speak 36 rfl) rfl ?_
  refine sk_S.iconst (v := 4) (dd DX6_speak 37 rfl) (by decide) ?_
  refine sk_S.imul (dd DX6_speak 38 rfl) ?_
  refine sk_S.iload_n (i := 2) (dd DX6_speak 39 rfl) rfl rfl ?_
  refine sk_S.iadd (dd DX6_speak 40 rfl) ?_
  refine sk_S.roald (dd DX6_speak 41 rfl) rfl (j := 14) ⟨by decide, by decide, by decide⟩ rfl ?_
  refine sk_S.istore (i := 6) (dd DX6_speak 42 rfl) (Nat.le_of_ble_eq_true rfl) rfl ?_
  refine sk_S.aload_n (i := 0) (dd DX6_speak 43 rfl) rfl rfl ?_
  refine sk_S.geti (dd DX6_speak 44 rfl) rfl fX6_29 se_4 (by decide) rfl ?_
  refine sk_S.bipush (v := 30) (dd DX6_speak 45 rfl) (by decide) ?_
  refine sk_S.icmp_ge (tgt := 110) (dd DX6_speak 46 rfl) (by decide) (fun c86 => absurd c86 (by rw [hV.2.2.2.2]; exact nI_ge (b := 30) (by omega) (by decide))) (fun c86 => ?_)
  refine sk_S.aload_n (i := 0) (dd DX6_speak 47 rfl) rfl rfl ?_
  refine sk_S.getr (dd DX6_speak 48 rfl) rfl fX6_9 se_4 (by decide) rfl ?_
  refine sk_S.aload_n (i := 0) (dd DX6_speak 49 rfl) rfl rfl ?_
  refine sk_S.geti (dd DX6_speak 50 rfl) rfl fX6_29 se_4 (by decide) rfl ?_
  refine sk_S.iload (i := 6) (dd DX6_speak 51 rfl) rfl ?_
  refine sk_S.iast (dd DX6_speak 52 rfl) se_17 (sk_ix_nI (k := n) hV.2.2.2.2 (by omega) (by decide)) ?_
  refine sk_S.aload_n (i := 0) (dd DX6_speak 53 rfl) rfl rfl ?_
  refine sk_S.dup (dd DX6_speak 54 rfl) rfl ?_
  refine sk_S.geti (dd DX6_speak 55 rfl) rfl fX6_29 se_4 (by decide) rfl ?_
  refine sk_S.iconst (v := 1) (dd DX6_speak 56 rfl) (by decide) ?_
  refine sk_S.iadd (dd DX6_speak 57 rfl) ?_
  refine sk_S.putf (dd DX6_speak 58 rfl) rfl pX6_29 se_4 (by decide) rfl rfl rfl ?_
  have xp := pshC (b := 40) hV.2.2.2.2 hV.2.2.2.1
  have hV2 := hV.up xp
  refine sk_S.aload_n (i := 0) (dd DX6_speak 59 rfl) rfl rfl ?_
  refine sk_S.iload (i := 6) (dd DX6_speak 60 rfl) rfl ?_
  refine sk_S.gets (dd DX6_speak 61 rfl) rfl gsX6_43 ?_
  refine sk_S.iload (i := 5) (dd DX6_speak 62 rfl) rfl ?_
  refine sk_S.roald (dd DX6_speak 63 rfl) rfl (j := 3) ⟨by decide, by decide, by decide⟩ rfl ?_
  refine sk_S.iload_n (i := 3) (dd DX6_speak 64 rfl) rfl rfl ?_
  refine sk_S.iload (i := 4) (dd DX6_speak 65 rfl) rfl ?_
  refine sk_S.iconst (v := 1) (dd DX6_speak 66 rfl) (by decide) ?_
  refine sk_S.iadd (dd DX6_speak 67 rfl) ?_
  refine sk_S.V (nI (dep + 1)) (nI_1 dep) ?_
  refine sk_S.callV (dd DX6_speak 68 rfl) rfl kX6_46 (cV_sy_3_3_2 (by simp only [List.length_cons, List.length_nil]; omega) (by omega) hV2) se_4 (by decide) rfl rfl rfl rfl (Nat.le_of_ble_eq_true rfl) (fun r124 h124 q124 => ?_)
  obtain ⟨x124, rfl⟩ := q124
  show sk_S _ _ _ _ _ _ (.int _ :: _) _ _
  refine sk_S.iret (dd DX6_speak 69 rfl) rfl rfl ?_
  exact ⟨xp.tr x124, rfl⟩
set_option maxRecDepth 100000 in
set_option maxHeartbeats 1000000 in
theorem cV_sy_3_3_3 {l : Launch} {E : sk_V} {d : Nat} {h : sk_M} {m x : Int32} {t n dep : Nat} (hn : n + 0 ≤ 30) (hd : dep + 0 ≤ 30) (hV : voI h 3 m t n) (hp : ¬ m - nI t = 0) : sk_K l E (d + 2) MX6_say [.ref 4, .int 13, .int (-1), .int x, .int (nI dep)] h (fun r h1 => tcQ h h1 n [] 0 ∧ some (.int (x / (m - nI t))) = r) := by
  refine sk_K.of (by decide +kernel) (Nat.le_of_ble_eq_true rfl) ?_
  show sk_S l E (d + 2) _ 0 [some (.ref 4), some (.int 13), some (.int (-1)), some (.int x), some (.int (nI dep))] [] h _
  refine sk_S.iload_n (i := 1) (dd DX6_say_p1 0 rfl) rfl rfl ?_
  · refine sk_S.lookup (off := 147) (dd DX6_say_p1 1 rfl) (by decide) (by decide) (tgt := 148) (by decide) ?_
    refine sk_S.aload_n (i := 0) (dd DX6_say_p1 28 rfl) rfl rfl ?_
    refine sk_S.iload_n (i := 3) (dd DX6_say_p1 29 rfl) rfl rfl ?_
    refine sk_S.callV (dd DX6_say_p1 30 rfl) rfl kX6_49 (cV_part hV hp) se_4 (by decide) rfl rfl rfl rfl (Nat.le_of_ble_eq_true rfl) (fun r150 h150 q150 => ?_)
    obtain ⟨x150, rfl⟩ := q150
    show sk_S _ _ _ _ _ _ (.int _ :: _) _ _
    refine sk_S.iret (dd DX6_say_p1 31 rfl) rfl rfl ?_
    exact ⟨x150, rfl⟩
set_option maxRecDepth 100000 in
set_option maxHeartbeats 1000000 in
theorem cV_sp_3_3_3 {l : Launch} {E : sk_V} {d : Nat} {h : sk_M} {m x : Int32} {t n dep : Nat} (hn : n + 1 ≤ 30) (hd : dep + 1 ≤ 30) (hV : voI h 3 m t n) (hp : ¬ m - nI t = 0) : sk_K l E (d + 3) MX6_speak [.ref 4, .int 3, .int 3, .int x, .int (nI dep)] h (fun r h1 => tcQ h h1 n [13] 0 ∧ some (.int (x / (m - nI t))) = r) := by
  refine sk_K.of (by decide +kernel) (Nat.le_of_ble_eq_true rfl) ?_
  show sk_S l E (d + 3) _ 0 [some (.ref 4), some (.int 3), some (.int 3), some (.int x), some (.int (nI dep)), none, none] [] h _
  refine sk_S.aload_n (i := 0) (dd DX6_speak 0 rfl) rfl rfl ?_
  refine sk_S.geti (dd DX6_speak 1 rfl) rfl fX6_32 se_4 (by decide) rfl ?_
  refine sk_S.if_eq (tgt := 9) (dd DX6_speak 2 rfl) (by decide) (fun c4 => ?_) (fun c4 => absurd hV.2.2.2.1 c4)
  refine sk_S.iload_n (i := 1) (dd DX6_speak 5 rfl) rfl rfl ?_
  refine sk_S.istore (i := 5) (dd DX6_speak 6 rfl) (Nat.le_of_ble_eq_true rfl) rfl ?_
  refine sk_S.iconst (v := 0) (dd DX6_speak 7 rfl) (by decide) ?_
  refine sk_S.istore (i := 6) (dd DX6_speak 8 rfl) (Nat.le_of_ble_eq_true rfl) rfl ?_
  refine sk_S.iload (i := 6) (dd DX6_speak 9 rfl) rfl ?_
  refine sk_S.bipush (v := 7) (dd DX6_speak 10 rfl) (by decide) ?_
  refine sk_S.icmp_ge (tgt := 54) (dd DX6_speak 11 rfl) (by decide) (fun c19 => absurd c19 (by decide)) (fun c19 => ?_)
  refine sk_S.iload (i := 5) (dd DX6_speak 12 rfl) rfl ?_
  refine sk_S.if_le (tgt := 54) (dd DX6_speak 13 rfl) (by decide) (fun c24 => absurd c24 (by decide)) (fun c24 => ?_)
  refine sk_S.gets (dd DX6_speak 14 rfl) rfl gsX6_40 ?_
  refine sk_S.iload (i := 5) (dd DX6_speak 15 rfl) rfl ?_
  refine sk_S.iconst (v := 4) (dd DX6_speak 16 rfl) (by decide) ?_
  refine sk_S.imul (dd DX6_speak 17 rfl) ?_
  refine sk_S.iload_n (i := 2) (dd DX6_speak 18 rfl) rfl rfl ?_
  refine sk_S.iadd (dd DX6_speak 19 rfl) ?_
  refine sk_S.roald (dd DX6_speak 20 rfl) rfl (j := 15) ⟨by decide, by decide, by decide⟩ rfl ?_
  refine sk_S.if_ne (tgt := 54) (dd DX6_speak 21 rfl) (by decide) (fun c37 => absurd (by decide) c37) (fun c37 => ?_)
  refine sk_S.gets (dd DX6_speak 22 rfl) rfl gsX6_43 ?_
  refine sk_S.iload (i := 5) (dd DX6_speak 23 rfl) rfl ?_
  refine sk_S.roald (dd DX6_speak 24 rfl) rfl (j := 3) ⟨by decide, by decide, by decide⟩ rfl ?_
  refine sk_S.istore (i := 5) (dd DX6_speak 25 rfl) (Nat.le_of_ble_eq_true rfl) rfl ?_
  refine sk_S.iinc (i := 6) (v := _ + 1) (dd DX6_speak 26 rfl) rfl rfl rfl ?_
  refine sk_S.goto (tgt := 15) (dd DX6_speak 27 rfl) (by decide) ?_
  refine sk_S.iload (i := 6) (dd DX6_speak 9 rfl) rfl ?_
  refine sk_S.bipush (v := 7) (dd DX6_speak 10 rfl) (by decide) ?_
  refine sk_S.icmp_ge (tgt := 54) (dd DX6_speak 11 rfl) (by decide) (fun c19 => absurd c19 (by decide)) (fun c19 => ?_)
  refine sk_S.iload (i := 5) (dd DX6_speak 12 rfl) rfl ?_
  refine sk_S.if_le (tgt := 54) (dd DX6_speak 13 rfl) (by decide) (fun c24 => ?_) (fun c24 => absurd (by decide) c24)
  refine sk_S.iload (i := 5) (dd DX6_speak 28 rfl) rfl ?_
  refine sk_S.if_lt (tgt := 66) (dd DX6_speak 29 rfl) (by decide) (fun c56 => absurd c56 (by decide)) (fun c56 => ?_)
  refine sk_S.iload (i := 4) (dd DX6_speak 30 rfl) rfl ?_
  refine sk_S.bipush (v := 30) (dd DX6_speak 31 rfl) (by decide) ?_
  refine sk_S.icmp_le (tgt := 68) (dd DX6_speak 32 rfl) (by decide) (fun c63 => ?_) (fun c63 => absurd (nI_le (b := 30) (by omega) (by decide)) c63)
  refine sk_S.gets (dd DX6_speak 35 rfl) rfl gsX6_40 ?_
  refine sk_S.iload (i := 5) (dd DX6_speak 36 rfl) rfl ?_
  refine sk_S.iconst (v := 4) (dd DX6_speak 37 rfl) (by decide) ?_
  refine sk_S.imul (dd DX6_speak 38 rfl) ?_
  refine sk_S.iload_n (i := 2) (dd DX6_speak 39 rfl) rfl rfl ?_
  refine sk_S.iadd (dd DX6_speak 40 rfl) ?_
  refine sk_S.roald (dd DX6_speak 41 rfl) rfl (j := 3) ⟨by decide, by decide, by decide⟩ rfl ?_
  refine sk_S.istore (i := 6) (dd DX6_speak 42 rfl) (Nat.le_of_ble_eq_true rfl) rfl ?_
  refine sk_S.aload_n (i := 0) (dd DX6_speak 43 rfl) rfl rfl ?_
  refine sk_S.geti (dd DX6_speak 44 rfl) rfl fX6_29 se_4 (by decide) rfl ?_
  refine sk_S.bipush (v := 30) (dd DX6_speak 45 rfl) (by decide) ?_
  refine sk_S.icmp_ge (tgt := 110) (dd DX6_speak 46 rfl) (by decide) (fun c86 => absurd c86 (by rw [hV.2.2.2.2]; exact nI_ge (b := 30) (by omega) (by decide))) (fun c86 => ?_)
  refine sk_S.aload_n (i := 0) (dd DX6_speak 47 rfl) rfl rfl ?_
  refine sk_S.getr (dd DX6_speak 48 rfl) rfl fX6_9 se_4 (by decide) rfl ?_
  refine sk_S.aload_n (i := 0) (dd DX6_speak 49 rfl) rfl rfl ?_
  refine sk_S.geti (dd DX6_speak 50 rfl) rfl fX6_29 se_4 (by decide) rfl ?_
  refine sk_S.iload (i := 6) (dd DX6_speak 51 rfl) rfl ?_
  refine sk_S.iast (dd DX6_speak 52 rfl) se_17 (sk_ix_nI (k := n) hV.2.2.2.2 (by omega) (by decide)) ?_
  refine sk_S.aload_n (i := 0) (dd DX6_speak 53 rfl) rfl rfl ?_
  refine sk_S.dup (dd DX6_speak 54 rfl) rfl ?_
  refine sk_S.geti (dd DX6_speak 55 rfl) rfl fX6_29 se_4 (by decide) rfl ?_
  refine sk_S.iconst (v := 1) (dd DX6_speak 56 rfl) (by decide) ?_
  refine sk_S.iadd (dd DX6_speak 57 rfl) ?_
  refine sk_S.putf (dd DX6_speak 58 rfl) rfl pX6_29 se_4 (by decide) rfl rfl rfl ?_
  have xp := pshC (b := 13) hV.2.2.2.2 hV.2.2.2.1
  have hV2 := hV.up xp
  refine sk_S.aload_n (i := 0) (dd DX6_speak 59 rfl) rfl rfl ?_
  refine sk_S.iload (i := 6) (dd DX6_speak 60 rfl) rfl ?_
  refine sk_S.gets (dd DX6_speak 61 rfl) rfl gsX6_43 ?_
  refine sk_S.iload (i := 5) (dd DX6_speak 62 rfl) rfl ?_
  refine sk_S.roald (dd DX6_speak 63 rfl) rfl (j := 0) ⟨by decide, by decide, by decide⟩ rfl ?_
  refine sk_S.iload_n (i := 3) (dd DX6_speak 64 rfl) rfl rfl ?_
  refine sk_S.iload (i := 4) (dd DX6_speak 65 rfl) rfl ?_
  refine sk_S.iconst (v := 1) (dd DX6_speak 66 rfl) (by decide) ?_
  refine sk_S.iadd (dd DX6_speak 67 rfl) ?_
  refine sk_S.V (nI (dep + 1)) (nI_1 dep) ?_
  refine sk_S.callV (dd DX6_speak 68 rfl) rfl kX6_46 (cV_sy_3_3_3 (by simp only [List.length_cons, List.length_nil]; omega) (by omega) hV2 hp) se_4 (by decide) rfl rfl rfl rfl (Nat.le_of_ble_eq_true rfl) (fun r124 h124 q124 => ?_)
  obtain ⟨x124, rfl⟩ := q124
  show sk_S _ _ _ _ _ _ (.int _ :: _) _ _
  refine sk_S.iret (dd DX6_speak 69 rfl) rfl rfl ?_
  exact ⟨xp.tr x124, rfl⟩
set_option maxRecDepth 100000 in
set_option maxHeartbeats 1000000 in
theorem cV_sy_3_3_3p {l : Launch} {E : sk_V} {d : Nat} {h : sk_M} {m x : Int32} {t n dep : Nat} (hn : n + 0 ≤ 30) (hd : dep + 0 ≤ 30) (hV : voI h 3 m t n) (hp : m - nI t = 0) : sk_K l E (d + 2) MX6_say [.ref 4, .int 13, .int (-1), .int x, .int (nI dep)] h (fun r h1 => tcQ h h1 n [] 1 ∧ some (.int (0 : Int32)) = r) := by
  refine sk_K.of (by decide +kernel) (Nat.le_of_ble_eq_true rfl) ?_
  show sk_S l E (d + 2) _ 0 [some (.ref 4), some (.int 13), some (.int (-1)), some (.int x), some (.int (nI dep))] [] h _
  refine sk_S.iload_n (i := 1) (dd DX6_say_p1 0 rfl) rfl rfl ?_
  · refine sk_S.lookup (off := 147) (dd DX6_say_p1 1 rfl) (by decide) (by decide) (tgt := 148) (by decide) ?_
    refine sk_S.aload_n (i := 0) (dd DX6_say_p1 28 rfl) rfl rfl ?_
    refine sk_S.iload_n (i := 3) (dd DX6_say_p1 29 rfl) rfl rfl ?_
    refine sk_S.callV (dd DX6_say_p1 30 rfl) rfl kX6_49 (cV_partP hV hp) se_4 (by decide) rfl rfl rfl rfl (Nat.le_of_ble_eq_true rfl) (fun r150 h150 q150 => ?_)
    obtain ⟨x150, rfl⟩ := q150
    show sk_S _ _ _ _ _ _ (.int _ :: _) _ _
    refine sk_S.iret (dd DX6_say_p1 31 rfl) rfl rfl ?_
    exact ⟨x150, rfl⟩
set_option maxRecDepth 100000 in
set_option maxHeartbeats 1000000 in
theorem cV_sp_3_3_3p {l : Launch} {E : sk_V} {d : Nat} {h : sk_M} {m x : Int32} {t n dep : Nat} (hn : n + 1 ≤ 30) (hd : dep + 1 ≤ 30) (hV : voI h 3 m t n) (hp : m - nI t = 0) : sk_K l E (d + 3) MX6_speak [.ref 4, .int 3, .int 3, .int x, .int (nI dep)] h (fun r h1 => tcQ h h1 n [13] 1 ∧ some (.int (0 : Int32)) = r) := by
  refine sk_K.of (by decide +kernel) (Nat.le_of_ble_eq_true rfl) ?_
  show sk_S l E (d + 3) _ 0 [some (.ref 4), some (.int 3), some (.int 3), some (.int x), some (.int (nI dep)), none, none] [] h _
  refine sk_S.aload_n (i := 0) (dd DX6_speak 0 rfl) rfl rfl ?_
  refine sk_S.geti (dd DX6_speak 1 rfl) rfl fX6_32 se_4 (by decide) rfl ?_
  refine sk_S.if_eq (tgt := 9) (dd DX6_speak 2 rfl) (by decide) (fun c4 => ?_) (fun c4 => absurd hV.2.2.2.1 c4)
  refine sk_S.iload_n (i := 1) (dd DX6_speak 5 rfl) rfl rfl ?_
  refine sk_S.istore (i := 5) (dd DX6_speak 6 rfl) (Nat.le_of_ble_eq_true rfl) rfl ?_
  refine sk_S.iconst (v := 0) (dd DX6_speak 7 rfl) (by decide) ?_
  refine sk_S.istore (i := 6) (dd DX6_speak 8 rfl) (Nat.le_of_ble_eq_true rfl) rfl ?_
  refine sk_S.iload (i := 6) (dd DX6_speak 9 rfl) rfl ?_
  refine sk_S.bipush (v := 7) (dd DX6_speak 10 rfl) (by decide) ?_
  refine sk_S.icmp_ge (tgt := 54) (dd DX6_speak 11 rfl) (by decide) (fun c19 => absurd c19 (by decide)) (fun c19 => ?_)
  refine sk_S.iload (i := 5) (dd DX6_speak 12 rfl) rfl ?_
  refine sk_S.if_le (tgt := 54) (dd DX6_speak 13 rfl) (by decide) (fun c24 => absurd c24 (by decide)) (fun c24 => ?_)
  refine sk_S.gets (dd DX6_speak 14 rfl) rfl gsX6_40 ?_
  refine sk_S.iload (i := 5) (dd DX6_speak 15 rfl) rfl ?_
  refine sk_S.iconst (v := 4) (dd DX6_speak 16 rfl) (by decide) ?_
  refine sk_S.imul (dd DX6_speak 17 rfl) ?_
  refine sk_S.iload_n (i := 2) (dd DX6_speak 18 rfl) rfl rfl ?_
  refine sk_S.iadd (dd DX6_speak 19 rfl) ?_
  refine sk_S.roald (dd DX6_speak 20 rfl) rfl (j := 15) ⟨by decide, by decide, by decide⟩ rfl ?_
  refine sk_S.if_ne (tgt := 54) (dd DX6_speak 21 rfl) (by decide) (fun c37 => absurd (by decide) c37) (fun c37 => ?_)
  refine sk_S.gets (dd DX6_speak 22 rfl) rfl gsX6_43 ?_
  refine sk_S.iload (i := 5) (dd DX6_speak 23 rfl) rfl ?_
  refine sk_S.roald (dd DX6_speak 24 rfl) rfl (j := 3) ⟨by decide, by decide, by decide⟩ rfl ?_
  refine sk_S.istore (i := 5) (dd DX6_speak 25 rfl) (Nat.le_of_ble_eq_true rfl) rfl ?_
  refine sk_S.iinc (i := 6) (v := _ + 1) (dd DX6_speak 26 rfl) rfl rfl rfl ?_
  refine sk_S.goto (tgt := 15) (dd DX6_speak 27 rfl) (by decide) ?_
  refine sk_S.iload (i := 6) (dd DX6_speak 9 rfl) rfl ?_
  refine sk_S.bipush (v := 7) (dd DX6_speak 10 rfl) (by decide) ?_
  refine sk_S.icmp_ge (tgt := 54) (dd DX6_speak 11 rfl) (by decide) (fun c19 => absurd c19 (by decide)) (fun c19 => ?_)
  refine sk_S.iload (i := 5) (dd DX6_speak 12 rfl) rfl ?_
  refine sk_S.if_le (tgt := 54) (dd DX6_speak 13 rfl) (by decide) (fun c24 => ?_) (fun c24 => absurd (by decide) c24)
  refine sk_S.iload (i := 5) (dd DX6_speak 28 rfl) rfl ?_
  refine sk_S.if_lt (tgt := 66) (dd DX6_speak 29 rfl) (by decide) (fun c56 => absurd c56 (by decide)) (fun c56 => ?_)
  refine sk_S.iload (i := 4) (dd DX6_speak 30 rfl) rfl ?_
  refine sk_S.bipush (v := 30) (dd DX6_speak 31 rfl) (by decide) ?_
  refine sk_S.icmp_le (tgt := 68) (dd DX6_speak 32 rfl) (by decide) (fun c63 => ?_) (fun c63 => absurd (nI_le (b := 30) (by omega) (by decide)) c63)
  refine sk_S.gets (dd DX6_speak 35 rfl) rfl gsX6_40 ?_
  refine sk_S.iload (i := 5) (dd DX6_speak 36 rfl) rfl ?_
  refine sk_S.iconst (v := 4) (dd DX6_speak 37 rfl) (by decide) ?_
  refine sk_S.imul (dd DX6_speak 38 rfl) ?_
  refine sk_S.iload_n (i := 2) (dd DX6_speak 39 rfl) rfl rfl ?_
  refine sk_S.iadd (dd DX6_speak 40 rfl) ?_
  refine sk_S.roald (dd DX6_speak 41 rfl) rfl (j := 3) ⟨by decide, by decide, by decide⟩ rfl ?_
  refine sk_S.istore (i := 6) (dd DX6_speak 42 rfl) (Nat.le_of_ble_eq_true rfl) rfl ?_
  refine sk_S.aload_n (i := 0) (dd DX6_speak 43 rfl) rfl rfl ?_
  refine sk_S.geti (dd DX6_speak 44 rfl) rfl fX6_29 se_4 (by decide) rfl ?_
  refine sk_S.bipush (v := 30) (dd DX6_speak 45 rfl) (by decide) ?_
  refine sk_S.icmp_ge (tgt := 110) (dd DX6_speak 46 rfl) (by decide) (fun c86 => absurd c86 (by rw [hV.2.2.2.2]; exact nI_ge (b := 30) (by omega) (by decide))) (fun c86 => ?_)
  refine sk_S.aload_n (i := 0) (dd DX6_speak 47 rfl) rfl rfl ?_
  refine sk_S.getr (dd DX6_speak 48 rfl) rfl fX6_9 se_4 (by decide) rfl ?_
  refine sk_S.aload_n (i := 0) (dd DX6_speak 49 rfl) rfl rfl ?_
  refine sk_S.geti (dd DX6_speak 50 rfl) rfl fX6_29 se_4 (by decide) rfl ?_
  refine sk_S.iload (i := 6) (dd DX6_speak 51 rfl) rfl ?_
  refine sk_S.iast (dd DX6_speak 52 rfl) se_17 (sk_ix_nI (k := n) hV.2.2.2.2 (by omega) (by decide)) ?_
  refine sk_S.aload_n (i := 0) (dd DX6_speak 53 rfl) rfl rfl ?_
  refine sk_S.dup (dd DX6_speak 54 rfl) rfl ?_
  refine sk_S.geti (dd DX6_speak 55 rfl) rfl fX6_29 se_4 (by decide) rfl ?_
  refine sk_S.iconst (v := 1) (dd DX6_speak 56 rfl) (by decide) ?_
  refine sk_S.iadd (dd DX6_speak 57 rfl) ?_
  refine sk_S.putf (dd DX6_speak 58 rfl) rfl pX6_29 se_4 (by decide) rfl rfl rfl ?_
  have xp := pshC (b := 13) hV.2.2.2.2 hV.2.2.2.1
  have hV2 := hV.up xp
  refine sk_S.aload_n (i := 0) (dd DX6_speak 59 rfl) rfl rfl ?_
  refine sk_S.iload (i := 6) (dd DX6_speak 60 rfl) rfl ?_
  refine sk_S.gets (dd DX6_speak 61 rfl) rfl gsX6_43 ?_
  refine sk_S.iload (i := 5) (dd DX6_speak 62 rfl) rfl ?_
  refine sk_S.roald (dd DX6_speak 63 rfl) rfl (j := 0) ⟨by decide, by decide, by decide⟩ rfl ?_
  refine sk_S.iload_n (i := 3) (dd DX6_speak 64 rfl) rfl rfl ?_
  refine sk_S.iload (i := 4) (dd DX6_speak 65 rfl) rfl ?_
  refine sk_S.iconst (v := 1) (dd DX6_speak 66 rfl) (by decide) ?_
  refine sk_S.iadd (dd DX6_speak 67 rfl) ?_
  refine sk_S.V (nI (dep + 1)) (nI_1 dep) ?_
  refine sk_S.callV (dd DX6_speak 68 rfl) rfl kX6_46 (cV_sy_3_3_3p (by simp only [List.length_cons, List.length_nil]; omega) (by omega) hV2 hp) se_4 (by decide) rfl rfl rfl rfl (Nat.le_of_ble_eq_true rfl) (fun r124 h124 q124 => ?_)
  obtain ⟨x124, rfl⟩ := q124
  show sk_S _ _ _ _ _ _ (.int _ :: _) _ _
  refine sk_S.iret (dd DX6_speak 69 rfl) rfl rfl ?_
  exact ⟨xp.tr x124, rfl⟩
set_option maxRecDepth 100000 in
set_option maxHeartbeats 1000000 in
theorem cV_sy_4_0_0 {l : Launch} {E : sk_V} {d : Nat} {h : sk_M} {m x : Int32} {t n dep : Nat} (hn : n + 0 ≤ 30) (hd : dep + 0 ≤ 30) (hV : voI h 4 m t n) : sk_K l E (d + 1) MX6_say [.ref 4, .int 10, .int (-1), .int x, .int (nI dep)] h (fun r h1 => tcQ h h1 n [] 0 ∧ some (.int (x + nI t)) = r) := by
  refine sk_K.of (by decide +kernel) (Nat.le_of_ble_eq_true rfl) ?_
  show sk_S l E (d + 1) _ 0 [some (.ref 4), some (.int 10), some (.int (-1)), some (.int x), some (.int (nI dep))] [] h _
  refine sk_S.iload_n (i := 1) (dd DX6_say_p1 0 rfl) rfl rfl ?_
  · refine sk_S.lookup (off := 107) (dd DX6_say_p1 1 rfl) (by decide) (by decide) (tgt := 108) (by decide) ?_
    refine sk_S.iload_n (i := 3) (dd DX6_say_p1 2 rfl) rfl rfl ?_
    refine sk_S.aload_n (i := 0) (dd DX6_say_p1 3 rfl) rfl rfl ?_
    refine sk_S.geti (dd DX6_say_p1 4 rfl) rfl fX6_26 se_4 (by decide) rfl ?_
    refine sk_S.V (nI t) hV.2.1 ?_
    refine sk_S.iadd (dd DX6_say_p1 5 rfl) ?_
    refine sk_S.iret (dd DX6_say_p1 6 rfl) rfl rfl ?_
    have e := tcQ.rf hV.2.2.2.2
    rw [hV.2.2.2.1] at e
    exact ⟨e, rfl⟩
set_option maxRecDepth 100000 in
set_option maxHeartbeats 1000000 in
theorem cV_sp_4_0_0 {l : Launch} {E : sk_V} {d : Nat} {h : sk_M} {m x : Int32} {t n dep : Nat} (hn : n + 1 ≤ 30) (hd : dep + 1 ≤ 30) (hV : voI h 4 m t n) : sk_K l E (d + 2) MX6_speak [.ref 4, .int 0, .int 0, .int x, .int (nI dep)] h (fun r h1 => tcQ h h1 n [10] 0 ∧ some (.int (x + nI t)) = r) := by
  refine sk_K.of (by decide +kernel) (Nat.le_of_ble_eq_true rfl) ?_
  show sk_S l E (d + 2) _ 0 [some (.ref 4), some (.int 0), some (.int 0), some (.int x), some (.int (nI dep)), none, none] [] h _
  refine sk_S.aload_n (i := 0) (dd DX6_speak 0 rfl) rfl rfl ?_
  refine sk_S.geti (dd DX6_speak 1 rfl) rfl fX6_32 se_4 (by decide) rfl ?_
  refine sk_S.if_eq (tgt := 9) (dd DX6_speak 2 rfl) (by decide) (fun c4 => ?_) (fun c4 => absurd hV.2.2.2.1 c4)
  refine sk_S.iload_n (i := 1) (dd DX6_speak 5 rfl) rfl rfl ?_
  refine sk_S.istore (i := 5) (dd DX6_speak 6 rfl) (Nat.le_of_ble_eq_true rfl) rfl ?_
  refine sk_S.iconst (v := 0) (dd DX6_speak 7 rfl) (by decide) ?_
  refine sk_S.istore (i := 6) (dd DX6_speak 8 rfl) (Nat.le_of_ble_eq_true rfl) rfl ?_
  refine sk_S.iload (i := 6) (dd DX6_speak 9 rfl) rfl ?_
  refine sk_S.bipush (v := 7) (dd DX6_speak 10 rfl) (by decide) ?_
  refine sk_S.icmp_ge (tgt := 54) (dd DX6_speak 11 rfl) (by decide) (fun c19 => absurd c19 (by decide)) (fun c19 => ?_)
  refine sk_S.iload (i := 5) (dd DX6_speak 12 rfl) rfl ?_
  refine sk_S.if_le (tgt := 54) (dd DX6_speak 13 rfl) (by decide) (fun c24 => ?_) (fun c24 => absurd (by decide) c24)
  refine sk_S.iload (i := 5) (dd DX6_speak 28 rfl) rfl ?_
  refine sk_S.if_lt (tgt := 66) (dd DX6_speak 29 rfl) (by decide) (fun c56 => absurd c56 (by decide)) (fun c56 => ?_)
  refine sk_S.iload (i := 4) (dd DX6_speak 30 rfl) rfl ?_
  refine sk_S.bipush (v := 30) (dd DX6_speak 31 rfl) (by decide) ?_
  refine sk_S.icmp_le (tgt := 68) (dd DX6_speak 32 rfl) (by decide) (fun c63 => ?_) (fun c63 => absurd (nI_le (b := 30) (by omega) (by decide)) c63)
  refine sk_S.gets (dd DX6_speak 35 rfl) rfl gsX6_40 ?_
  refine sk_S.iload (i := 5) (dd DX6_speak 36 rfl) rfl ?_
  refine sk_S.iconst (v := 4) (dd DX6_speak 37 rfl) (by decide) ?_
  refine sk_S.imul (dd DX6_speak 38 rfl) ?_
  refine sk_S.iload_n (i := 2) (dd DX6_speak 39 rfl) rfl rfl ?_
  refine sk_S.iadd (dd DX6_speak 40 rfl) ?_
  refine sk_S.roald (dd DX6_speak 41 rfl) rfl (j := 0) ⟨by decide, by decide, by decide⟩ rfl ?_
  refine sk_S.istore (i := 6) (dd DX6_speak 42 rfl) (Nat.le_of_ble_eq_true rfl) rfl ?_
  refine sk_S.aload_n (i := 0) (dd DX6_speak 43 rfl) rfl rfl ?_
  refine sk_S.geti (dd DX6_speak 44 rfl) rfl fX6_29 se_4 (by decide) rfl ?_
  refine sk_S.bipush (v := 30) (dd DX6_speak 45 rfl) (by decide) ?_
  refine sk_S.icmp_ge (tgt := 110) (dd DX6_speak 46 rfl) (by decide) (fun c86 => absurd c86 (by rw [hV.2.2.2.2]; exact nI_ge (b := 30) (by omega) (by decide))) (fun c86 => ?_)
  refine sk_S.aload_n (i := 0) (dd DX6_speak 47 rfl) rfl rfl ?_
  refine sk_S.getr (dd DX6_speak 48 rfl) rfl fX6_9 se_4 (by decide) rfl ?_
  refine sk_S.aload_n (i := 0) (dd DX6_speak 49 rfl) rfl rfl ?_
  refine sk_S.geti (dd DX6_speak 50 rfl) rfl fX6_29 se_4 (by decide) rfl ?_
  refine sk_S.iload (i := 6) (dd DX6_speak 51 rfl) rfl ?_
  refine sk_S.iast (dd DX6_speak 52 rfl) se_17 (sk_ix_nI (k := n) hV.2.2.2.2 (by omega) (by decide)) ?_
  refine sk_S.aload_n (i := 0) (dd DX6_speak 53 rfl) rfl rfl ?_
  refine sk_S.dup (dd DX6_speak 54 rfl) rfl ?_
  refine sk_S.geti (dd DX6_speak 55 rfl) rfl fX6_29 se_4 (by decide) rfl ?_
  refine sk_S.iconst (v := 1) (dd DX6_speak 56 rfl) (by decide) ?_
  refine sk_S.iadd (dd DX6_speak 57 rfl) ?_
  refine sk_S.putf (dd DX6_speak 58 rfl) rfl pX6_29 se_4 (by decide) rfl rfl rfl ?_
  have xp := pshC (b := 10) hV.2.2.2.2 hV.2.2.2.1
  have hV2 := hV.up xp
  refine sk_S.aload_n (i := 0) (dd DX6_speak 59 rfl) rfl rfl ?_
  refine sk_S.iload (i := 6) (dd DX6_speak 60 rfl) rfl ?_
  refine sk_S.gets (dd DX6_speak 61 rfl) rfl gsX6_43 ?_
  refine sk_S.iload (i := 5) (dd DX6_speak 62 rfl) rfl ?_
  refine sk_S.roald (dd DX6_speak 63 rfl) rfl (j := 0) ⟨by decide, by decide, by decide⟩ rfl ?_
  refine sk_S.iload_n (i := 3) (dd DX6_speak 64 rfl) rfl rfl ?_
  refine sk_S.iload (i := 4) (dd DX6_speak 65 rfl) rfl ?_
  refine sk_S.iconst (v := 1) (dd DX6_speak 66 rfl) (by decide) ?_
  refine sk_S.iadd (dd DX6_speak 67 rfl) ?_
  refine sk_S.V (nI (dep + 1)) (nI_1 dep) ?_
  refine sk_S.callV (dd DX6_speak 68 rfl) rfl kX6_46 (cV_sy_4_0_0 (by simp only [List.length_cons, List.length_nil]; omega) (by omega) hV2) se_4 (by decide) rfl rfl rfl rfl (Nat.le_of_ble_eq_true rfl) (fun r124 h124 q124 => ?_)
  obtain ⟨x124, rfl⟩ := q124
  show sk_S _ _ _ _ _ _ (.int _ :: _) _ _
  refine sk_S.iret (dd DX6_speak 69 rfl) rfl rfl ?_
  exact ⟨xp.tr x124, rfl⟩
set_option maxRecDepth 100000 in
set_option maxHeartbeats 1000000 in
theorem cV_sy_4_1_0 {l : Launch} {E : sk_V} {d : Nat} {h : sk_M} {m x : Int32} {t n dep : Nat} (hn : n + 1 ≤ 30) (hd : dep + 1 ≤ 30) (hV : voI h 4 m t n) : sk_K l E (d + 4) MX6_say [.ref 4, .int 20, .int 0, .int x, .int (nI dep)] h (fun r h1 => tcQ h h1 n [10] 0 ∧ some (.int ((x + nI t) - 4)) = r) := by
  refine sk_K.of (by decide +kernel) (Nat.le_of_ble_eq_true rfl) ?_
  show sk_S l E (d + 4) _ 0 [some (.ref 4), some (.int 20), some (.int 0), some (.int x), some (.int (nI dep))] [] h _
  refine sk_S.iload_n (i := 1) (dd DX6_say_p1 0 rfl) rfl rfl ?_
  · refine sk_S.lookup (off := 153) (dd DX6_say_p1 1 rfl) (by decide) (by decide) (tgt := 154) (by decide) ?_
    refine sk_S.aload_n (i := 0) (dd DX6_say_p1 32 rfl) rfl rfl ?_
    refine sk_S.iload_n (i := 2) (dd DX6_say_p1 33 rfl) rfl rfl ?_
    refine sk_S.iconst (v := 0) (dd DX6_say_p1 34 rfl) (by decide) ?_
    refine sk_S.iload_n (i := 3) (dd DX6_say_p1 35 rfl) rfl rfl ?_
    refine sk_S.iload (i := 4) (dd DX6_say_p1 36 rfl) rfl ?_
    refine sk_S.callV (dd DX6_say_p1 37 rfl) rfl kX6_36 (cV_sp_4_0_0 (x := x) (by omega) (by omega) hV) se_4 (by decide) rfl rfl rfl rfl (Nat.le_of_ble_eq_true rfl) (fun r160 h160 q160 => ?_)
    obtain ⟨x160, rfl⟩ := q160
    show sk_S _ _ _ _ _ _ (.int _ :: _) _ _
    refine sk_S.iconst (v := 4) (dd DX6_say_p1 38 rfl) (by decide) ?_
    refine sk_S.isub (dd DX6_say_p1 39 rfl) ?_
    refine sk_S.iret (dd DX6_say_p1 40 rfl) rfl rfl ?_
    exact ⟨x160, rfl⟩
set_option maxRecDepth 100000 in
set_option maxHeartbeats 1000000 in
theorem cV_sp_4_1_0 {l : Launch} {E : sk_V} {d : Nat} {h : sk_M} {m x : Int32} {t n dep : Nat} (hn : n + 2 ≤ 30) (hd : dep + 2 ≤ 30) (hV : voI h 4 m t n) : sk_K l E (d + 5) MX6_speak [.ref 4, .int 1, .int 0, .int x, .int (nI dep)] h (fun r h1 => tcQ h h1 n [20, 10] 0 ∧ some (.int ((x + nI t) - 4)) = r) := by
  refine sk_K.of (by decide +kernel) (Nat.le_of_ble_eq_true rfl) ?_
  show sk_S l E (d + 5) _ 0 [some (.ref 4), some (.int 1), some (.int 0), some (.int x), some (.int (nI dep)), none, none] [] h _
  refine sk_S.aload_n (i := 0) (dd DX6_speak 0 rfl) rfl rfl ?_
  refine sk_S.geti (dd DX6_speak 1 rfl) rfl fX6_32 se_4 (by decide) rfl ?_
  refine sk_S.if_eq (tgt := 9) (dd DX6_speak 2 rfl) (by decide) (fun c4 => ?_) (fun c4 => absurd hV.2.2.2.1 c4)
  refine sk_S.iload_n (i := 1) (dd DX6_speak 5 rfl) rfl rfl ?_
  refine sk_S.istore (i := 5) (dd DX6_speak 6 rfl) (Nat.le_of_ble_eq_true rfl) rfl ?_
  refine sk_S.iconst (v := 0) (dd DX6_speak 7 rfl) (by decide) ?_
  refine sk_S.istore (i := 6) (dd DX6_speak 8 rfl) (Nat.le_of_ble_eq_true rfl) rfl ?_
  refine sk_S.iload (i := 6) (dd DX6_speak 9 rfl) rfl ?_
  refine sk_S.bipush (v := 7) (dd DX6_speak 10 rfl) (by decide) ?_
  refine sk_S.icmp_ge (tgt := 54) (dd DX6_speak 11 rfl) (by decide) (fun c19 => absurd c19 (by decide)) (fun c19 => ?_)
  refine sk_S.iload (i := 5) (dd DX6_speak 12 rfl) rfl ?_
  refine sk_S.if_le (tgt := 54) (dd DX6_speak 13 rfl) (by decide) (fun c24 => absurd c24 (by decide)) (fun c24 => ?_)
  refine sk_S.gets (dd DX6_speak 14 rfl) rfl gsX6_40 ?_
  refine sk_S.iload (i := 5) (dd DX6_speak 15 rfl) rfl ?_
  refine sk_S.iconst (v := 4) (dd DX6_speak 16 rfl) (by decide) ?_
  refine sk_S.imul (dd DX6_speak 17 rfl) ?_
  refine sk_S.iload_n (i := 2) (dd DX6_speak 18 rfl) rfl rfl ?_
  refine sk_S.iadd (dd DX6_speak 19 rfl) ?_
  refine sk_S.roald (dd DX6_speak 20 rfl) rfl (j := 4) ⟨by decide, by decide, by decide⟩ rfl ?_
  refine sk_S.if_ne (tgt := 54) (dd DX6_speak 21 rfl) (by decide) (fun c37 => ?_) (fun c37 => absurd c37 (by decide))
  refine sk_S.iload (i := 5) (dd DX6_speak 28 rfl) rfl ?_
  refine sk_S.if_lt (tgt := 66) (dd DX6_speak 29 rfl) (by decide) (fun c56 => absurd c56 (by decide)) (fun c56 => ?_)
  refine sk_S.iload (i := 4) (dd DX6_speak 30 rfl) rfl ?_
  refine sk_S.bipush (v := 30) (dd DX6_speak 31 rfl) (by decide) ?_
  refine sk_S.icmp_le (tgt := 68) (dd DX6_speak 32 rfl) (by decide) (fun c63 => ?_) (fun c63 => absurd (nI_le (b := 30) (by omega) (by decide)) c63)
  refine sk_S.gets (dd DX6_speak 35 rfl) rfl gsX6_40 ?_
  refine sk_S.iload (i := 5) (dd DX6_speak 36 rfl) rfl ?_
  refine sk_S.iconst (v := 4) (dd DX6_speak 37 rfl) (by decide) ?_
  refine sk_S.imul (dd DX6_speak 38 rfl) ?_
  refine sk_S.iload_n (i := 2) (dd DX6_speak 39 rfl) rfl rfl ?_
  refine sk_S.iadd (dd DX6_speak 40 rfl) ?_
  refine sk_S.roald (dd DX6_speak 41 rfl) rfl (j := 4) ⟨by decide, by decide, by decide⟩ rfl ?_
  refine sk_S.istore (i := 6) (dd DX6_speak 42 rfl) (Nat.le_of_ble_eq_true rfl) rfl ?_
  refine sk_S.aload_n (i := 0) (dd DX6_speak 43 rfl) rfl rfl ?_
  refine sk_S.geti (dd DX6_speak 44 rfl) rfl fX6_29 se_4 (by decide) rfl ?_
  refine sk_S.bipush (v := 30) (dd DX6_speak 45 rfl) (by decide) ?_
  refine sk_S.icmp_ge (tgt := 110) (dd DX6_speak 46 rfl) (by decide) (fun c86 => absurd c86 (by rw [hV.2.2.2.2]; exact nI_ge (b := 30) (by omega) (by decide))) (fun c86 => ?_)
  refine sk_S.aload_n (i := 0) (dd DX6_speak 47 rfl) rfl rfl ?_
  refine sk_S.getr (dd DX6_speak 48 rfl) rfl fX6_9 se_4 (by decide) rfl ?_
  refine sk_S.aload_n (i := 0) (dd DX6_speak 49 rfl) rfl rfl ?_
  refine sk_S.geti (dd DX6_speak 50 rfl) rfl fX6_29 se_4 (by decide) rfl ?_
  refine sk_S.iload (i := 6) (dd DX6_speak 51 rfl) rfl ?_
  refine sk_S.iast (dd DX6_speak 52 rfl) se_17 (sk_ix_nI (k := n) hV.2.2.2.2 (by omega) (by decide)) ?_
  refine sk_S.aload_n (i := 0) (dd DX6_speak 53 rfl) rfl rfl ?_
  refine sk_S.dup (dd DX6_speak 54 rfl) rfl ?_
  refine sk_S.geti (dd DX6_speak 55 rfl) rfl fX6_29 se_4 (by decide) rfl ?_
  refine sk_S.iconst (v := 1) (dd DX6_speak 56 rfl) (by decide) ?_
  refine sk_S.iadd (dd DX6_speak 57 rfl) ?_
  refine sk_S.putf (dd DX6_speak 58 rfl) rfl pX6_29 se_4 (by decide) rfl rfl rfl ?_
  have xp := pshC (b := 20) hV.2.2.2.2 hV.2.2.2.1
  have hV2 := hV.up xp
  refine sk_S.aload_n (i := 0) (dd DX6_speak 59 rfl) rfl rfl ?_
  refine sk_S.iload (i := 6) (dd DX6_speak 60 rfl) rfl ?_
  refine sk_S.gets (dd DX6_speak 61 rfl) rfl gsX6_43 ?_
  refine sk_S.iload (i := 5) (dd DX6_speak 62 rfl) rfl ?_
  refine sk_S.roald (dd DX6_speak 63 rfl) rfl (j := 1) ⟨by decide, by decide, by decide⟩ rfl ?_
  refine sk_S.iload_n (i := 3) (dd DX6_speak 64 rfl) rfl rfl ?_
  refine sk_S.iload (i := 4) (dd DX6_speak 65 rfl) rfl ?_
  refine sk_S.iconst (v := 1) (dd DX6_speak 66 rfl) (by decide) ?_
  refine sk_S.iadd (dd DX6_speak 67 rfl) ?_
  refine sk_S.V (nI (dep + 1)) (nI_1 dep) ?_
  refine sk_S.callV (dd DX6_speak 68 rfl) rfl kX6_46 (cV_sy_4_1_0 (by simp only [List.length_cons, List.length_nil]; omega) (by omega) hV2) se_4 (by decide) rfl rfl rfl rfl (Nat.le_of_ble_eq_true rfl) (fun r124 h124 q124 => ?_)
  obtain ⟨x124, rfl⟩ := q124
  show sk_S _ _ _ _ _ _ (.int _ :: _) _ _
  refine sk_S.iret (dd DX6_speak 69 rfl) rfl rfl ?_
  exact ⟨xp.tr x124, rfl⟩
set_option maxRecDepth 100000 in
set_option maxHeartbeats 1000000 in
theorem cV_sy_4_4_0 {l : Launch} {E : sk_V} {d : Nat} {h : sk_M} {m x : Int32} {t n dep : Nat} (hn : n + 2 ≤ 30) (hd : dep + 2 ≤ 30) (hV : voI h 4 m t n) : sk_K l E (d + 7) MX6_say [.ref 4, .int 50, .int 1, .int x, .int (nI dep)] h (fun r h1 => tcQ h h1 n [20, 10] 0 ∧ some (.int (((x + nI t) - 4) * 3)) = r) := by
  refine sk_K.of (by decide +kernel) (Nat.le_of_ble_eq_true rfl) ?_
  show sk_S l E (d + 7) _ 0 [some (.ref 4), some (.int 50), some (.int 1), some (.int x), some (.int (nI dep))] [] h _
  refine sk_S.iload_n (i := 1) (dd DX6_say_p1 0 rfl) rfl rfl ?_
  · refine sk_S.lookup (off := 212) (dd DX6_say_p1 1 rfl) (by decide) (by decide) (tgt := 213) (by decide) ?_
    refine sk_S.aload_n (i := 0) (dd DX6_say_p1 74 rfl) rfl rfl ?_
    refine sk_S.iload_n (i := 2) (dd DX6_say_p1 75 rfl) rfl rfl ?_
    refine sk_S.iconst (v := 0) (dd DX6_say_p1 76 rfl) (by decide) ?_
    refine sk_S.iload_n (i := 3) (dd DX6_say_p1 77 rfl) rfl rfl ?_
    refine sk_S.iload (i := 4) (dd DX6_say_p1 78 rfl) rfl ?_
    refine sk_S.callV (dd DX6_say_p1 79 rfl) rfl kX6_36 (cV_sp_4_1_0 (x := x) (by omega) (by omega) hV) se_4 (by decide) rfl rfl rfl rfl (Nat.le_of_ble_eq_true rfl) (fun r219 h219 q219 => ?_)
    obtain ⟨x219, rfl⟩ := q219
    show sk_S _ _ _ _ _ _ (.int _ :: _) _ _
    refine sk_S.iconst (v := 3) (dd DX6_say_p1 80 rfl) (by decide) ?_
    refine sk_S.imul (dd DX6_say_p1 81 rfl) ?_
    refine sk_S.iret (dd DX6_say_p1 82 rfl) rfl rfl ?_
    exact ⟨x219, rfl⟩
set_option maxRecDepth 100000 in
set_option maxHeartbeats 1000000 in
theorem cV_sp_4_4_0 {l : Launch} {E : sk_V} {d : Nat} {h : sk_M} {m x : Int32} {t n dep : Nat} (hn : n + 3 ≤ 30) (hd : dep + 3 ≤ 30) (hV : voI h 4 m t n) : sk_K l E (d + 8) MX6_speak [.ref 4, .int 4, .int 0, .int x, .int (nI dep)] h (fun r h1 => tcQ h h1 n [50, 20, 10] 0 ∧ some (.int (((x + nI t) - 4) * 3)) = r) := by
  refine sk_K.of (by decide +kernel) (Nat.le_of_ble_eq_true rfl) ?_
  show sk_S l E (d + 8) _ 0 [some (.ref 4), some (.int 4), some (.int 0), some (.int x), some (.int (nI dep)), none, none] [] h _
  refine sk_S.aload_n (i := 0) (dd DX6_speak 0 rfl) rfl rfl ?_
  refine sk_S.geti (dd DX6_speak 1 rfl) rfl fX6_32 se_4 (by decide) rfl ?_
  refine sk_S.if_eq (tgt := 9) (dd DX6_speak 2 rfl) (by decide) (fun c4 => ?_) (fun c4 => absurd hV.2.2.2.1 c4)
  refine sk_S.iload_n (i := 1) (dd DX6_speak 5 rfl) rfl rfl ?_
  refine sk_S.istore (i := 5) (dd DX6_speak 6 rfl) (Nat.le_of_ble_eq_true rfl) rfl ?_
  refine sk_S.iconst (v := 0) (dd DX6_speak 7 rfl) (by decide) ?_
  refine sk_S.istore (i := 6) (dd DX6_speak 8 rfl) (Nat.le_of_ble_eq_true rfl) rfl ?_
  refine sk_S.iload (i := 6) (dd DX6_speak 9 rfl) rfl ?_
  refine sk_S.bipush (v := 7) (dd DX6_speak 10 rfl) (by decide) ?_
  refine sk_S.icmp_ge (tgt := 54) (dd DX6_speak 11 rfl) (by decide) (fun c19 => absurd c19 (by decide)) (fun c19 => ?_)
  refine sk_S.iload (i := 5) (dd DX6_speak 12 rfl) rfl ?_
  refine sk_S.if_le (tgt := 54) (dd DX6_speak 13 rfl) (by decide) (fun c24 => absurd c24 (by decide)) (fun c24 => ?_)
  refine sk_S.gets (dd DX6_speak 14 rfl) rfl gsX6_40 ?_
  refine sk_S.iload (i := 5) (dd DX6_speak 15 rfl) rfl ?_
  refine sk_S.iconst (v := 4) (dd DX6_speak 16 rfl) (by decide) ?_
  refine sk_S.imul (dd DX6_speak 17 rfl) ?_
  refine sk_S.iload_n (i := 2) (dd DX6_speak 18 rfl) rfl rfl ?_
  refine sk_S.iadd (dd DX6_speak 19 rfl) ?_
  refine sk_S.roald (dd DX6_speak 20 rfl) rfl (j := 16) ⟨by decide, by decide, by decide⟩ rfl ?_
  refine sk_S.if_ne (tgt := 54) (dd DX6_speak 21 rfl) (by decide) (fun c37 => ?_) (fun c37 => absurd c37 (by decide))
  refine sk_S.iload (i := 5) (dd DX6_speak 28 rfl) rfl ?_
  refine sk_S.if_lt (tgt := 66) (dd DX6_speak 29 rfl) (by decide) (fun c56 => absurd c56 (by decide)) (fun c56 => ?_)
  refine sk_S.iload (i := 4) (dd DX6_speak 30 rfl) rfl ?_
  refine sk_S.bipush (v := 30) (dd DX6_speak 31 rfl) (by decide) ?_
  refine sk_S.icmp_le (tgt := 68) (dd DX6_speak 32 rfl) (by decide) (fun c63 => ?_) (fun c63 => absurd (nI_le (b := 30) (by omega) (by decide)) c63)
  refine sk_S.gets (dd DX6_speak 35 rfl) rfl gsX6_40 ?_
  refine sk_S.iload (i := 5) (dd DX6_speak 36 rfl) rfl ?_
  refine sk_S.iconst (v := 4) (dd DX6_speak 37 rfl) (by decide) ?_
  refine sk_S.imul (dd DX6_speak 38 rfl) ?_
  refine sk_S.iload_n (i := 2) (dd DX6_speak 39 rfl) rfl rfl ?_
  refine sk_S.iadd (dd DX6_speak 40 rfl) ?_
  refine sk_S.roald (dd DX6_speak 41 rfl) rfl (j := 16) ⟨by decide, by decide, by decide⟩ rfl ?_
  refine sk_S.istore (i := 6) (dd DX6_speak 42 rfl) (Nat.le_of_ble_eq_true rfl) rfl ?_
  refine sk_S.aload_n (i := 0) (dd DX6_speak 43 rfl) rfl rfl ?_
  refine sk_S.geti (dd DX6_speak 44 rfl) rfl fX6_29 se_4 (by decide) rfl ?_
  refine sk_S.bipush (v := 30) (dd DX6_speak 45 rfl) (by decide) ?_
  refine sk_S.icmp_ge (tgt := 110) (dd DX6_speak 46 rfl) (by decide) (fun c86 => absurd c86 (by rw [hV.2.2.2.2]; exact nI_ge (b := 30) (by omega) (by decide))) (fun c86 => ?_)
  refine sk_S.aload_n (i := 0) (dd DX6_speak 47 rfl) rfl rfl ?_
  refine sk_S.getr (dd DX6_speak 48 rfl) rfl fX6_9 se_4 (by decide) rfl ?_
  refine sk_S.aload_n (i := 0) (dd DX6_speak 49 rfl) rfl rfl ?_
  refine sk_S.geti (dd DX6_speak 50 rfl) rfl fX6_29 se_4 (by decide) rfl ?_
  refine sk_S.iload (i := 6) (dd DX6_speak 51 rfl) rfl ?_
  refine sk_S.iast (dd DX6_speak 52 rfl) se_17 (sk_ix_nI (k := n) hV.2.2.2.2 (by omega) (by decide)) ?_
  refine sk_S.aload_n (i := 0) (dd DX6_speak 53 rfl) rfl rfl ?_
  refine sk_S.dup (dd DX6_speak 54 rfl) rfl ?_
  refine sk_S.geti (dd DX6_speak 55 rfl) rfl fX6_29 se_4 (by decide) rfl ?_
  refine sk_S.iconst (v := 1) (dd DX6_speak 56 rfl) (by decide) ?_
  refine sk_S.iadd (dd DX6_speak 57 rfl) ?_
  refine sk_S.putf (dd DX6_speak 58 rfl) rfl pX6_29 se_4 (by decide) rfl rfl rfl ?_
  have xp := pshC (b := 50) hV.2.2.2.2 hV.2.2.2.1
  have hV2 := hV.up xp
  refine sk_S.aload_n (i := 0) (dd DX6_speak 59 rfl) rfl rfl ?_
  refine sk_S.iload (i := 6) (dd DX6_speak 60 rfl) rfl ?_
  refine sk_S.gets (dd DX6_speak 61 rfl) rfl gsX6_43 ?_
  refine sk_S.iload (i := 5) (dd DX6_speak 62 rfl) rfl ?_
  refine sk_S.roald (dd DX6_speak 63 rfl) rfl (j := 4) ⟨by decide, by decide, by decide⟩ rfl ?_
  refine sk_S.iload_n (i := 3) (dd DX6_speak 64 rfl) rfl rfl ?_
  refine sk_S.iload (i := 4) (dd DX6_speak 65 rfl) rfl ?_
  refine sk_S.iconst (v := 1) (dd DX6_speak 66 rfl) (by decide) ?_
  refine sk_S.iadd (dd DX6_speak 67 rfl) ?_
  refine sk_S.V (nI (dep + 1)) (nI_1 dep) ?_
  refine sk_S.callV (dd DX6_speak 68 rfl) rfl kX6_46 (cV_sy_4_4_0 (by simp only [List.length_cons, List.length_nil]; omega) (by omega) hV2) se_4 (by decide) rfl rfl rfl rfl (Nat.le_of_ble_eq_true rfl) (fun r124 h124 q124 => ?_)
  obtain ⟨x124, rfl⟩ := q124
  show sk_S _ _ _ _ _ _ (.int _ :: _) _ _
  refine sk_S.iret (dd DX6_speak 69 rfl) rfl rfl ?_
  exact ⟨xp.tr x124, rfl⟩
set_option maxRecDepth 100000 in
set_option maxHeartbeats 1000000 in
theorem cV_sy_4_4_1 {l : Launch} {E : sk_V} {d : Nat} {h : sk_M} {m x : Int32} {t n dep : Nat} (hn : n + 3 ≤ 30) (hd : dep + 3 ≤ 30) (hV : voI h 4 m t n) : sk_K l E (d + 10) MX6_say [.ref 4, .int 11, .int (-1), .int x, .int (nI dep)] h (fun r h1 => tcQ h h1 n [50, 20, 10] 0 ∧ some (.int ((((x + nI t) - 4) * 3) * 2)) = r) := by
  refine sk_K.of (by decide +kernel) (Nat.le_of_ble_eq_true rfl) ?_
  show sk_S l E (d + 10) _ 0 [some (.ref 4), some (.int 11), some (.int (-1)), some (.int x), some (.int (nI dep))] [] h _
  refine sk_S.iload_n (i := 1) (dd DX6_say_p1 0 rfl) rfl rfl ?_
  · refine sk_S.lookup (off := 114) (dd DX6_say_p1 1 rfl) (by decide) (by decide) (tgt := 115) (by decide) ?_
    refine sk_S.aload_n (i := 0) (dd DX6_say_p1 7 rfl) rfl rfl ?_
    refine sk_S.aload_n (i := 0) (dd DX6_say_p1 8 rfl) rfl rfl ?_
    refine sk_S.geti (dd DX6_say_p1 9 rfl) rfl fX6_21 se_4 (by decide) rfl ?_
    refine sk_S.V 4 hV.1 ?_
    refine sk_S.iconst (v := 0) (dd DX6_say_p1 10 rfl) (by decide) ?_
    refine sk_S.iload_n (i := 3) (dd DX6_say_p1 11 rfl) rfl rfl ?_
    refine sk_S.iload (i := 4) (dd DX6_say_p1 12 rfl) rfl ?_
    refine sk_S.callV (dd DX6_say_p1 13 rfl) rfl kX6_36 (cV_sp_4_4_0 (x := x) (by omega) (by omega) hV) se_4 (by decide) rfl rfl rfl rfl (Nat.le_of_ble_eq_true rfl) (fun r124 h124 q124 => ?_)
    obtain ⟨x124, rfl⟩ := q124
    show sk_S _ _ _ _ _ _ (.int _ :: _) _ _
    refine sk_S.iconst (v := 2) (dd DX6_say_p1 14 rfl) (by decide) ?_
    refine sk_S.imul (dd DX6_say_p1 15 rfl) ?_
    refine sk_S.iret (dd DX6_say_p1 16 rfl) rfl rfl ?_
    exact ⟨x124, rfl⟩
set_option maxRecDepth 100000 in
set_option maxHeartbeats 1000000 in
theorem cV_sp_4_4_1 {l : Launch} {E : sk_V} {d : Nat} {h : sk_M} {m x : Int32} {t n dep : Nat} (hn : n + 4 ≤ 30) (hd : dep + 4 ≤ 30) (hV : voI h 4 m t n) : sk_K l E (d + 11) MX6_speak [.ref 4, .int 4, .int 1, .int x, .int (nI dep)] h (fun r h1 => tcQ h h1 n [11, 50, 20, 10] 0 ∧ some (.int ((((x + nI t) - 4) * 3) * 2)) = r) := by
  refine sk_K.of (by decide +kernel) (Nat.le_of_ble_eq_true rfl) ?_
  show sk_S l E (d + 11) _ 0 [some (.ref 4), some (.int 4), some (.int 1), some (.int x), some (.int (nI dep)), none, none] [] h _
  refine sk_S.aload_n (i := 0) (dd DX6_speak 0 rfl) rfl rfl ?_
  refine sk_S.geti (dd DX6_speak 1 rfl) rfl fX6_32 se_4 (by decide) rfl ?_
  refine sk_S.if_eq (tgt := 9) (dd DX6_speak 2 rfl) (by decide) (fun c4 => ?_) (fun c4 => absurd hV.2.2.2.1 c4)
  refine sk_S.iload_n (i := 1) (dd DX6_speak 5 rfl) rfl rfl ?_
  refine sk_S.istore (i := 5) (dd DX6_speak 6 rfl) (Nat.le_of_ble_eq_true rfl) rfl ?_
  refine sk_S.iconst (v := 0) (dd DX6_speak 7 rfl) (by decide) ?_
  refine sk_S.istore (i := 6) (dd DX6_speak 8 rfl) (Nat.le_of_ble_eq_true rfl) rfl ?_
  refine sk_S.iload (i := 6) (dd DX6_speak 9 rfl) rfl ?_
  refine sk_S.bipush (v := 7) (dd DX6_speak 10 rfl) (by decide) ?_
  refine sk_S.icmp_ge (tgt := 54) (dd DX6_speak 11 rfl) (by decide) (fun c19 => absurd c19 (by decide)) (fun c19 => ?_)
  refine sk_S.iload (i := 5) (dd DX6_speak 12 rfl) rfl ?_
  refine sk_S.if_le (tgt := 54) (dd DX6_speak 13 rfl) (by decide) (fun c24 => absurd c24 (by decide)) (fun c24 => ?_)
  refine sk_S.gets (dd DX6_speak 14 rfl) rfl gsX6_40 ?_
  refine sk_S.iload (i := 5) (dd DX6_speak 15 rfl) rfl ?_
  refine sk_S.iconst (v := 4) (dd DX6_speak 16 rfl) (by decide) ?_
  refine sk_S.imul (dd DX6_speak 17 rfl) ?_
  refine sk_S.iload_n (i := 2) (dd DX6_speak 18 rfl) rfl rfl ?_
  refine sk_S.iadd (dd DX6_speak 19 rfl) ?_
  refine sk_S.roald (dd DX6_speak 20 rfl) rfl (j := 17) ⟨by decide, by decide, by decide⟩ rfl ?_
  refine sk_S.if_ne (tgt := 54) (dd DX6_speak 21 rfl) (by decide) (fun c37 => absurd (by decide) c37) (fun c37 => ?_)
  refine sk_S.gets (dd DX6_speak 22 rfl) rfl gsX6_43 ?_
  refine sk_S.iload (i := 5) (dd DX6_speak 23 rfl) rfl ?_
  refine sk_S.roald (dd DX6_speak 24 rfl) rfl (j := 4) ⟨by decide, by decide, by decide⟩ rfl ?_
  refine sk_S.istore (i := 5) (dd DX6_speak 25 rfl) (Nat.le_of_ble_eq_true rfl) rfl ?_
  refine sk_S.iinc (i := 6) (v := _ + 1) (dd DX6_speak 26 rfl) rfl rfl rfl ?_
  refine sk_S.goto (tgt := 15) (dd DX6_speak 27 rfl) (by decide) ?_
  refine sk_S.iload (i := 6) (dd DX6_speak 9 rfl) rfl ?_
  refine sk_S.bipush (v := 7) (dd DX6_speak 10 rfl) (by decide) ?_
  refine sk_S.icmp_ge (tgt := 54) (dd DX6_speak 11 rfl) (by decide) (fun c19 => absurd c19 (by decide)) (fun c19 => ?_)
  refine sk_S.iload (i := 5) (dd DX6_speak 12 rfl) rfl ?_
  refine sk_S.if_le (tgt := 54) (dd DX6_speak 13 rfl) (by decide) (fun c24 => absurd c24 (by decide)) (fun c24 => ?_)
  refine sk_S.gets (dd DX6_speak 14 rfl) rfl gsX6_40 ?_
  refine sk_S.iload (i := 5) (dd DX6_speak 15 rfl) rfl ?_
  refine sk_S.iconst (v := 4) (dd DX6_speak 16 rfl) (by decide) ?_
  refine sk_S.imul (dd DX6_speak 17 rfl) ?_
  refine sk_S.iload_n (i := 2) (dd DX6_speak 18 rfl) rfl rfl ?_
  refine sk_S.iadd (dd DX6_speak 19 rfl) ?_
  refine sk_S.roald (dd DX6_speak 20 rfl) rfl (j := 5) ⟨by decide, by decide, by decide⟩ rfl ?_
  refine sk_S.if_ne (tgt := 54) (dd DX6_speak 21 rfl) (by decide) (fun c37 => absurd (by decide) c37) (fun c37 => ?_)
  refine sk_S.gets (dd DX6_speak 22 rfl) rfl gsX6_43 ?_
  refine sk_S.iload (i := 5) (dd DX6_speak 23 rfl) rfl ?_
  refine sk_S.roald (dd DX6_speak 24 rfl) rfl (j := 1) ⟨by decide, by decide, by decide⟩ rfl ?_
  refine sk_S.istore (i := 5) (dd DX6_speak 25 rfl) (Nat.le_of_ble_eq_true rfl) rfl ?_
  refine sk_S.iinc (i := 6) (v := _ + 1) (dd DX6_speak 26 rfl) rfl rfl rfl ?_
  refine sk_S.goto (tgt := 15) (dd DX6_speak 27 rfl) (by decide) ?_
  refine sk_S.iload (i := 6) (dd DX6_speak 9 rfl) rfl ?_
  refine sk_S.bipush (v := 7) (dd DX6_speak 10 rfl) (by decide) ?_
  refine sk_S.icmp_ge (tgt := 54) (dd DX6_speak 11 rfl) (by decide) (fun c19 => absurd c19 (by decide)) (fun c19 => ?_)
  refine sk_S.iload (i := 5) (dd DX6_speak 12 rfl) rfl ?_
  refine sk_S.if_le (tgt := 54) (dd DX6_speak 13 rfl) (by decide) (fun c24 => ?_) (fun c24 => absurd (by decide) c24)
  refine sk_S.iload (i := 5) (dd DX6_speak 28 rfl) rfl ?_
  refine sk_S.if_lt (tgt := 66) (dd DX6_speak 29 rfl) (by decide) (fun c56 => absurd c56 (by decide)) (fun c56 => ?_)
  refine sk_S.iload (i := 4) (dd DX6_speak 30 rfl) rfl ?_
  refine sk_S.bipush (v := 30) (dd DX6_speak 31 rfl) (by decide) ?_
  refine sk_S.icmp_le (tgt := 68) (dd DX6_speak 32 rfl) (by decide) (fun c63 => ?_) (fun c63 => absurd (nI_le (b := 30) (by omega) (by decide)) c63)
  refine sk_S.gets (dd DX6_speak 35 rfl) rfl gsX6_40 ?_
  refine sk_S.iload (i := 5) (dd DX6_speak 36 rfl) rfl ?_
  refine sk_S.iconst (v := 4) (dd DX6_speak 37 rfl) (by decide) ?_
  refine sk_S.imul (dd DX6_speak 38 rfl) ?_
  refine sk_S.iload_n (i := 2) (dd DX6_speak 39 rfl) rfl rfl ?_
  refine sk_S.iadd (dd DX6_speak 40 rfl) ?_
  refine sk_S.roald (dd DX6_speak 41 rfl) rfl (j := 1) ⟨by decide, by decide, by decide⟩ rfl ?_
  refine sk_S.istore (i := 6) (dd DX6_speak 42 rfl) (Nat.le_of_ble_eq_true rfl) rfl ?_
  refine sk_S.aload_n (i := 0) (dd DX6_speak 43 rfl) rfl rfl ?_
  refine sk_S.geti (dd DX6_speak 44 rfl) rfl fX6_29 se_4 (by decide) rfl ?_
  refine sk_S.bipush (v := 30) (dd DX6_speak 45 rfl) (by decide) ?_
  refine sk_S.icmp_ge (tgt := 110) (dd DX6_speak 46 rfl) (by decide) (fun c86 => absurd c86 (by rw [hV.2.2.2.2]; exact nI_ge (b := 30) (by omega) (by decide))) (fun c86 => ?_)
  refine sk_S.aload_n (i := 0) (dd DX6_speak 47 rfl) rfl rfl ?_
  refine sk_S.getr (dd DX6_speak 48 rfl) rfl fX6_9 se_4 (by decide) rfl ?_
  refine sk_S.aload_n (i := 0) (dd DX6_speak 49 rfl) rfl rfl ?_
  refine sk_S.geti (dd DX6_speak 50 rfl) rfl fX6_29 se_4 (by decide) rfl ?_
  refine sk_S.iload (i := 6) (dd DX6_speak 51 rfl) rfl ?_
  refine sk_S.iast (dd DX6_speak 52 rfl) se_17 (sk_ix_nI (k := n) hV.2.2.2.2 (by omega) (by decide)) ?_
  refine sk_S.aload_n (i := 0) (dd DX6_speak 53 rfl) rfl rfl ?_
  refine sk_S.dup (dd DX6_speak 54 rfl) rfl ?_
  refine sk_S.geti (dd DX6_speak 55 rfl) rfl fX6_29 se_4 (by decide) rfl ?_
  refine sk_S.iconst (v := 1) (dd DX6_speak 56 rfl) (by decide) ?_
  refine sk_S.iadd (dd DX6_speak 57 rfl) ?_
  refine sk_S.putf (dd DX6_speak 58 rfl) rfl pX6_29 se_4 (by decide) rfl rfl rfl ?_
  have xp := pshC (b := 11) hV.2.2.2.2 hV.2.2.2.1
  have hV2 := hV.up xp
  refine sk_S.aload_n (i := 0) (dd DX6_speak 59 rfl) rfl rfl ?_
  refine sk_S.iload (i := 6) (dd DX6_speak 60 rfl) rfl ?_
  refine sk_S.gets (dd DX6_speak 61 rfl) rfl gsX6_43 ?_
  refine sk_S.iload (i := 5) (dd DX6_speak 62 rfl) rfl ?_
  refine sk_S.roald (dd DX6_speak 63 rfl) rfl (j := 0) ⟨by decide, by decide, by decide⟩ rfl ?_
  refine sk_S.iload_n (i := 3) (dd DX6_speak 64 rfl) rfl rfl ?_
  refine sk_S.iload (i := 4) (dd DX6_speak 65 rfl) rfl ?_
  refine sk_S.iconst (v := 1) (dd DX6_speak 66 rfl) (by decide) ?_
  refine sk_S.iadd (dd DX6_speak 67 rfl) ?_
  refine sk_S.V (nI (dep + 1)) (nI_1 dep) ?_
  refine sk_S.callV (dd DX6_speak 68 rfl) rfl kX6_46 (cV_sy_4_4_1 (by simp only [List.length_cons, List.length_nil]; omega) (by omega) hV2) se_4 (by decide) rfl rfl rfl rfl (Nat.le_of_ble_eq_true rfl) (fun r124 h124 q124 => ?_)
  obtain ⟨x124, rfl⟩ := q124
  show sk_S _ _ _ _ _ _ (.int _ :: _) _ _
  refine sk_S.iret (dd DX6_speak 69 rfl) rfl rfl ?_
  exact ⟨xp.tr x124, rfl⟩
set_option maxRecDepth 100000 in
set_option maxHeartbeats 1000000 in
theorem cV_sy_4_1_2 {l : Launch} {E : sk_V} {d : Nat} {h : sk_M} {m x : Int32} {t n dep : Nat} (hn : n + 4 ≤ 30) (hd : dep + 4 ≤ 30) (hV : voI h 4 m t n) : sk_K l E (d + 13) MX6_say [.ref 4, .int 12, .int (-1), .int x, .int (nI dep)] h (fun r h1 => tcQ h h1 n [11, 50, 20, 10] 0 ∧ some (.int (((((x + nI t) - 4) * 3) * 2) - m)) = r) := by
  refine sk_K.of (by decide +kernel) (Nat.le_of_ble_eq_true rfl) ?_
  show sk_S l E (d + 13) _ 0 [some (.ref 4), some (.int 12), some (.int (-1)), some (.int x), some (.int (nI dep))] [] h _
  refine sk_S.iload_n (i := 1) (dd DX6_say_p1 0 rfl) rfl rfl ?_
  · refine sk_S.lookup (off := 129) (dd DX6_say_p1 1 rfl) (by decide) (by decide) (tgt := 130) (by decide) ?_
    refine sk_S.aload_n (i := 0) (dd DX6_say_p1 17 rfl) rfl rfl ?_
    refine sk_S.aload_n (i := 0) (dd DX6_say_p1 18 rfl) rfl rfl ?_
    refine sk_S.geti (dd DX6_say_p1 19 rfl) rfl fX6_21 se_4 (by decide) rfl ?_
    refine sk_S.V 4 hV.1 ?_
    refine sk_S.iconst (v := 1) (dd DX6_say_p1 20 rfl) (by decide) ?_
    refine sk_S.iload_n (i := 3) (dd DX6_say_p1 21 rfl) rfl rfl ?_
    refine sk_S.iload (i := 4) (dd DX6_say_p1 22 rfl) rfl ?_
    refine sk_S.callV (dd DX6_say_p1 23 rfl) rfl kX6_36 (cV_sp_4_4_1 (x := x) (by omega) (by omega) hV) se_4 (by decide) rfl rfl rfl rfl (Nat.le_of_ble_eq_true rfl) (fun r139 h139 q139 => ?_)
    obtain ⟨x139, rfl⟩ := q139
    show sk_S _ _ _ _ _ _ (.int _ :: _) _ _
    refine sk_S.aload_n (i := 0) (dd DX6_say_p1 24 rfl) rfl rfl ?_
    refine sk_S.geti (dd DX6_say_p1 25 rfl) rfl fX6_25 se_4 (by decide) rfl ?_
    refine sk_S.V m ((x139.2.2.2.1 5 (by decide) (by decide)).trans hV.2.2.1) ?_
    refine sk_S.isub (dd DX6_say_p1 26 rfl) ?_
    refine sk_S.iret (dd DX6_say_p1 27 rfl) rfl rfl ?_
    exact ⟨x139, rfl⟩
set_option maxRecDepth 100000 in
set_option maxHeartbeats 1000000 in
theorem cV_sp_4_1_2 {l : Launch} {E : sk_V} {d : Nat} {h : sk_M} {m x : Int32} {t n dep : Nat} (hn : n + 5 ≤ 30) (hd : dep + 5 ≤ 30) (hV : voI h 4 m t n) : sk_K l E (d + 14) MX6_speak [.ref 4, .int 1, .int 2, .int x, .int (nI dep)] h (fun r h1 => tcQ h h1 n [12, 11, 50, 20, 10] 0 ∧ some (.int (((((x + nI t) - 4) * 3) * 2) - m)) = r) := by
  refine sk_K.of (by decide +kernel) (Nat.le_of_ble_eq_true rfl) ?_
  show sk_S l E (d + 14) _ 0 [some (.ref 4), some (.int 1), some (.int 2), some (.int x), some (.int (nI dep)), none, none] [] h _
  refine sk_S.aload_n (i := 0) (dd DX6_speak 0 rfl) rfl rfl ?_
  refine sk_S.geti (dd DX6_speak 1 rfl) rfl fX6_32 se_4 (by decide) rfl ?_
  refine sk_S.if_eq (tgt := 9) (dd DX6_speak 2 rfl) (by decide) (fun c4 => ?_) (fun c4 => absurd hV.2.2.2.1 c4)
  refine sk_S.iload_n (i := 1) (dd DX6_speak 5 rfl) rfl rfl ?_
  refine sk_S.istore (i := 5) (dd DX6_speak 6 rfl) (Nat.le_of_ble_eq_true rfl) rfl ?_
  refine sk_S.iconst (v := 0) (dd DX6_speak 7 rfl) (by decide) ?_
  refine sk_S.istore (i := 6) (dd DX6_speak 8 rfl) (Nat.le_of_ble_eq_true rfl) rfl ?_
  refine sk_S.iload (i := 6) (dd DX6_speak 9 rfl) rfl ?_
  refine sk_S.bipush (v := 7) (dd DX6_speak 10 rfl) (by decide) ?_
  refine sk_S.icmp_ge (tgt := 54) (dd DX6_speak 11 rfl) (by decide) (fun c19 => absurd c19 (by decide)) (fun c19 => ?_)
  refine sk_S.iload (i := 5) (dd DX6_speak 12 rfl) rfl ?_
  refine sk_S.if_le (tgt := 54) (dd DX6_speak 13 rfl) (by decide) (fun c24 => absurd c24 (by decide)) (fun c24 => ?_)
  refine sk_S.gets (dd DX6_speak 14 rfl) rfl gsX6_40 ?_
  refine sk_S.iload (i := 5) (dd DX6_speak 15 rfl) rfl ?_
  refine sk_S.iconst (v := 4) (dd DX6_speak 16 rfl) (by decide) ?_
  refine sk_S.imul (dd DX6_speak 17 rfl) ?_
  refine sk_S.iload_n (i := 2) (dd DX6_speak 18 rfl) rfl rfl ?_
  refine sk_S.iadd (dd DX6_speak 19 rfl) ?_
  refine sk_S.roald (dd DX6_speak 20 rfl) rfl (j := 6) ⟨by decide, by decide, by decide⟩ rfl ?_
  refine sk_S.if_ne (tgt := 54) (dd DX6_speak 21 rfl) (by decide) (fun c37 => absurd (by decide) c37) (fun c37 => ?_)
  refine sk_S.gets (dd DX6_speak 22 rfl) rfl gsX6_43 ?_
  refine sk_S.iload (i := 5) (dd DX6_speak 23 rfl) rfl ?_
  refine sk_S.roald (dd DX6_speak 24 rfl) rfl (j := 1) ⟨by decide, by decide, by decide⟩ rfl ?_
  refine sk_S.istore (i := 5) (dd DX6_speak 25 rfl) (Nat.le_of_ble_eq_true rfl) rfl ?_
  refine sk_S.iinc (i := 6) (v := _ + 1) (dd DX6_speak 26 rfl) rfl rfl rfl ?_
  refine sk_S.goto (tgt := 15) (dd DX6_speak 27 rfl) (by decide) ?_
  refine sk_S.iload (i := 6) (dd DX6_speak 9 rfl) rfl ?_
  refine sk_S.bipush (v := 7) (dd DX6_speak 10 rfl) (by decide) ?_
  refine sk_S.icmp_ge (tgt := 54) (dd DX6_speak 11 rfl) (by decide) (fun c19 => absurd c19 (by decide)) (fun c19 => ?_)
  refine sk_S.iload (i := 5) (dd DX6_speak 12 rfl) rfl ?_
  refine sk_S.if_le (tgt := 54) (dd DX6_speak 13 rfl) (by decide) (fun c24 => ?_) (fun c24 => absurd (by decide) c24)
  refine sk_S.iload (i := 5) (dd DX6_speak 28 rfl) rfl ?_
  refine sk_S.if_lt (tgt := 66) (dd DX6_speak 29 rfl) (by decide) (fun c56 => absurd c56 (by decide)) (fun c56 => ?_)
  refine sk_S.iload (i := 4) (dd DX6_speak 30 rfl) rfl ?_
  refine sk_S.bipush (v := 30) (dd DX6_speak 31 rfl) (by decide) ?_
  refine sk_S.icmp_le (tgt := 68) (dd DX6_speak 32 rfl) (by decide) (fun c63 => ?_) (fun c63 => absurd (nI_le (b := 30) (by omega) (by decide)) c63)
  refine sk_S.gets (dd DX6_speak 35 rfl) rfl gsX6_40 ?_
  refine sk_S.iload (i := 5) (dd DX6_speak 36 rfl) rfl ?_
  refine sk_S.iconst (v := 4) (dd DX6_speak 37 rfl) (by decide) ?_
  refine sk_S.imul (dd DX6_speak 38 rfl) ?_
  refine sk_S.iload_n (i := 2) (dd DX6_speak 39 rfl) rfl rfl ?_
  refine sk_S.iadd (dd DX6_speak 40 rfl) ?_
  refine sk_S.roald (dd DX6_speak 41 rfl) rfl (j := 2) ⟨by decide, by decide, by decide⟩ rfl ?_
  refine sk_S.istore (i := 6) (dd DX6_speak 42 rfl) (Nat.le_of_ble_eq_true rfl) rfl ?_
  refine sk_S.aload_n (i := 0) (dd DX6_speak 43 rfl) rfl rfl ?_
  refine sk_S.geti (dd DX6_speak 44 rfl) rfl fX6_29 se_4 (by decide) rfl ?_
  refine sk_S.bipush (v := 30) (dd DX6_speak 45 rfl) (by decide) ?_
  refine sk_S.icmp_ge (tgt := 110) (dd DX6_speak 46 rfl) (by decide) (fun c86 => absurd c86 (by rw [hV.2.2.2.2]; exact nI_ge (b := 30) (by omega) (by decide))) (fun c86 => ?_)
  refine sk_S.aload_n (i := 0) (dd DX6_speak 47 rfl) rfl rfl ?_
  refine sk_S.getr (dd DX6_speak 48 rfl) rfl fX6_9 se_4 (by decide) rfl ?_
  refine sk_S.aload_n (i := 0) (dd DX6_speak 49 rfl) rfl rfl ?_
  refine sk_S.geti (dd DX6_speak 50 rfl) rfl fX6_29 se_4 (by decide) rfl ?_
  refine sk_S.iload (i := 6) (dd DX6_speak 51 rfl) rfl ?_
  refine sk_S.iast (dd DX6_speak 52 rfl) se_17 (sk_ix_nI (k := n) hV.2.2.2.2 (by omega) (by decide)) ?_
  refine sk_S.aload_n (i := 0) (dd DX6_speak 53 rfl) rfl rfl ?_
  refine sk_S.dup (dd DX6_speak 54 rfl) rfl ?_
  refine sk_S.geti (dd DX6_speak 55 rfl) rfl fX6_29 se_4 (by decide) rfl ?_
  refine sk_S.iconst (v := 1) (dd DX6_speak 56 rfl) (by decide) ?_
  refine sk_S.iadd (dd DX6_speak 57 rfl) ?_
  refine sk_S.putf (dd DX6_speak 58 rfl) rfl pX6_29 se_4 (by decide) rfl rfl rfl ?_
  have xp := pshC (b := 12) hV.2.2.2.2 hV.2.2.2.1
  have hV2 := hV.up xp
  refine sk_S.aload_n (i := 0) (dd DX6_speak 59 rfl) rfl rfl ?_
  refine sk_S.iload (i := 6) (dd DX6_speak 60 rfl) rfl ?_
  refine sk_S.gets (dd DX6_speak 61 rfl) rfl gsX6_43 ?_
  refine sk_S.iload (i := 5) (dd DX6_speak 62 rfl) rfl ?_
  refine sk_S.roald (dd DX6_speak 63 rfl) rfl (j := 0) ⟨by decide, by decide, by decide⟩ rfl ?_
  refine sk_S.iload_n (i := 3) (dd DX6_speak 64 rfl) rfl rfl ?_
  refine sk_S.iload (i := 4) (dd DX6_speak 65 rfl) rfl ?_
  refine sk_S.iconst (v := 1) (dd DX6_speak 66 rfl) (by decide) ?_
  refine sk_S.iadd (dd DX6_speak 67 rfl) ?_
  refine sk_S.V (nI (dep + 1)) (nI_1 dep) ?_
  refine sk_S.callV (dd DX6_speak 68 rfl) rfl kX6_46 (cV_sy_4_1_2 (by simp only [List.length_cons, List.length_nil]; omega) (by omega) hV2) se_4 (by decide) rfl rfl rfl rfl (Nat.le_of_ble_eq_true rfl) (fun r124 h124 q124 => ?_)
  obtain ⟨x124, rfl⟩ := q124
  show sk_S _ _ _ _ _ _ (.int _ :: _) _ _
  refine sk_S.iret (dd DX6_speak 69 rfl) rfl rfl ?_
  exact ⟨xp.tr x124, rfl⟩
set_option maxRecDepth 100000 in
set_option maxHeartbeats 1000000 in
theorem cV_sy_4_4_2 {l : Launch} {E : sk_V} {d : Nat} {h : sk_M} {m x : Int32} {t n dep : Nat} (hn : n + 5 ≤ 30) (hd : dep + 5 ≤ 30) (hV : voI h 4 m t n) : sk_K l E (d + 16) MX6_say [.ref 4, .int 51, .int 1, .int x, .int (nI dep)] h (fun r h1 => tcQ h h1 n [12, 11, 50, 20, 10] 0 ∧ some (.int ((((((x + nI t) - 4) * 3) * 2) - m) ^^^ nI t)) = r) := by
  refine sk_K.of (by decide +kernel) (Nat.le_of_ble_eq_true rfl) ?_
  show sk_S l E (d + 16) _ 0 [some (.ref 4), some (.int 51), some (.int 1), some (.int x), some (.int (nI dep))] [] h _
  refine sk_S.iload_n (i := 1) (dd DX6_say_p1 0 rfl) rfl rfl ?_
  · refine sk_S.lookup (off := 224) (dd DX6_say_p1 1 rfl) (by decide) (by decide) (tgt := 225) (by decide) ?_
    refine sk_S.aload_n (i := 0) (dd DX6_say_p1 83 rfl) rfl rfl ?_
    refine sk_S.iload_n (i := 2) (dd DX6_say_p1 84 rfl) rfl rfl ?_
    refine sk_S.iconst (v := 2) (dd DX6_say_p1 85 rfl) (by decide) ?_
    refine sk_S.iload_n (i := 3) (dd DX6_say_p1 86 rfl) rfl rfl ?_
    refine sk_S.iload (i := 4) (dd DX6_say_p1 87 rfl) rfl ?_
    refine sk_S.callV (dd DX6_say_p1 88 rfl) rfl kX6_36 (cV_sp_4_1_2 (x := x) (by omega) (by omega) hV) se_4 (by decide) rfl rfl rfl rfl (Nat.le_of_ble_eq_true rfl) (fun r231 h231 q231 => ?_)
    obtain ⟨x231, rfl⟩ := q231
    show sk_S _ _ _ _ _ _ (.int _ :: _) _ _
    refine sk_S.aload_n (i := 0) (dd DX6_say_p1 89 rfl) rfl rfl ?_
    refine sk_S.geti (dd DX6_say_p1 90 rfl) rfl fX6_26 se_4 (by decide) rfl ?_
    refine sk_S.V (nI t) ((x231.2.2.2.1 4 (by decide) (by decide)).trans hV.2.1) ?_
    refine sk_S.ixor (dd DX6_say_p1 91 rfl) ?_
    refine sk_S.iret (dd DX6_say_p1 92 rfl) rfl rfl ?_
    exact ⟨x231, rfl⟩
set_option maxRecDepth 100000 in
set_option maxHeartbeats 1000000 in
theorem cV_sp_4_4_2 {l : Launch} {E : sk_V} {d : Nat} {h : sk_M} {m x : Int32} {t n dep : Nat} (hn : n + 6 ≤ 30) (hd : dep + 6 ≤ 30) (hV : voI h 4 m t n) : sk_K l E (d + 17) MX6_speak [.ref 4, .int 4, .int 2, .int x, .int (nI dep)] h (fun r h1 => tcQ h h1 n [51, 12, 11, 50, 20, 10] 0 ∧ some (.int ((((((x + nI t) - 4) * 3) * 2) - m) ^^^ nI t)) = r) := by
  refine sk_K.of (by decide +kernel) (Nat.le_of_ble_eq_true rfl) ?_
  show sk_S l E (d + 17) _ 0 [some (.ref 4), some (.int 4), some (.int 2), some (.int x), some (.int (nI dep)), none, none] [] h _
  refine sk_S.aload_n (i := 0) (dd DX6_speak 0 rfl) rfl rfl ?_
  refine sk_S.geti (dd DX6_speak 1 rfl) rfl fX6_32 se_4 (by decide) rfl ?_
  refine sk_S.if_eq (tgt := 9) (dd DX6_speak 2 rfl) (by decide) (fun c4 => ?_) (fun c4 => absurd hV.2.2.2.1 c4)
  refine sk_S.iload_n (i := 1) (dd DX6_speak 5 rfl) rfl rfl ?_
  refine sk_S.istore (i := 5) (dd DX6_speak 6 rfl) (Nat.le_of_ble_eq_true rfl) rfl ?_
  refine sk_S.iconst (v := 0) (dd DX6_speak 7 rfl) (by decide) ?_
  refine sk_S.istore (i := 6) (dd DX6_speak 8 rfl) (Nat.le_of_ble_eq_true rfl) rfl ?_
  refine sk_S.iload (i := 6) (dd DX6_speak 9 rfl) rfl ?_
  refine sk_S.bipush (v := 7) (dd DX6_speak 10 rfl) (by decide) ?_
  refine sk_S.icmp_ge (tgt := 54) (dd DX6_speak 11 rfl) (by decide) (fun c19 => absurd c19 (by decide)) (fun c19 => ?_)
  refine sk_S.iload (i := 5) (dd DX6_speak 12 rfl) rfl ?_
  refine sk_S.if_le (tgt := 54) (dd DX6_speak 13 rfl) (by decide) (fun c24 => absurd c24 (by decide)) (fun c24 => ?_)
  refine sk_S.gets (dd DX6_speak 14 rfl) rfl gsX6_40 ?_
  refine sk_S.iload (i := 5) (dd DX6_speak 15 rfl) rfl ?_
  refine sk_S.iconst (v := 4) (dd DX6_speak 16 rfl) (by decide) ?_
  refine sk_S.imul (dd DX6_speak 17 rfl) ?_
  refine sk_S.iload_n (i := 2) (dd DX6_speak 18 rfl) rfl rfl ?_
  refine sk_S.iadd (dd DX6_speak 19 rfl) ?_
  refine sk_S.roald (dd DX6_speak 20 rfl) rfl (j := 18) ⟨by decide, by decide, by decide⟩ rfl ?_
  refine sk_S.if_ne (tgt := 54) (dd DX6_speak 21 rfl) (by decide) (fun c37 => ?_) (fun c37 => absurd c37 (by decide))
  refine sk_S.iload (i := 5) (dd DX6_speak 28 rfl) rfl ?_
  refine sk_S.if_lt (tgt := 66) (dd DX6_speak 29 rfl) (by decide) (fun c56 => absurd c56 (by decide)) (fun c56 => ?_)
  refine sk_S.iload (i := 4) (dd DX6_speak 30 rfl) rfl ?_
  refine sk_S.bipush (v := 30) (dd DX6_speak 31 rfl) (by decide) ?_
  refine sk_S.icmp_le (tgt := 68) (dd DX6_speak 32 rfl) (by decide) (fun c63 => ?_) (fun c63 => absurd (nI_le (b := 30) (by omega) (by decide)) c63)
  refine sk_S.gets (dd DX6_speak 35 rfl) rfl gsX6_40 ?_
  refine sk_S.iload (i := 5) (dd DX6_speak 36 rfl) rfl ?_
  refine sk_S.iconst (v := 4) (dd DX6_speak 37 rfl) (by decide) ?_
  refine sk_S.imul (dd DX6_speak 38 rfl) ?_
  refine sk_S.iload_n (i := 2) (dd DX6_speak 39 rfl) rfl rfl ?_
  refine sk_S.iadd (dd DX6_speak 40 rfl) ?_
  refine sk_S.roald (dd DX6_speak 41 rfl) rfl (j := 18) ⟨by decide, by decide, by decide⟩ rfl ?_
  refine sk_S.istore (i := 6) (dd DX6_speak 42 rfl) (Nat.le_of_ble_eq_true rfl) rfl ?_
  refine sk_S.aload_n (i := 0) (dd DX6_speak 43 rfl) rfl rfl ?_
  refine sk_S.geti (dd DX6_speak 44 rfl) rfl fX6_29 se_4 (by decide) rfl ?_
  refine sk_S.bipush (v := 30) (dd DX6_speak 45 rfl) (by decide) ?_
  refine sk_S.icmp_ge (tgt := 110) (dd DX6_speak 46 rfl) (by decide) (fun c86 => absurd c86 (by rw [hV.2.2.2.2]; exact nI_ge (b := 30) (by omega) (by decide))) (fun c86 => ?_)
  refine sk_S.aload_n (i := 0) (dd DX6_speak 47 rfl) rfl rfl ?_
  refine sk_S.getr (dd DX6_speak 48 rfl) rfl fX6_9 se_4 (by decide) rfl ?_
  refine sk_S.aload_n (i := 0) (dd DX6_speak 49 rfl) rfl rfl ?_
  refine sk_S.geti (dd DX6_speak 50 rfl) rfl fX6_29 se_4 (by decide) rfl ?_
  refine sk_S.iload (i := 6) (dd DX6_speak 51 rfl) rfl ?_
  refine sk_S.iast (dd DX6_speak 52 rfl) se_17 (sk_ix_nI (k := n) hV.2.2.2.2 (by omega) (by decide)) ?_
  refine sk_S.aload_n (i := 0) (dd DX6_speak 53 rfl) rfl rfl ?_
  refine sk_S.dup (dd DX6_speak 54 rfl) rfl ?_
  refine sk_S.geti (dd DX6_speak 55 rfl) rfl fX6_29 se_4 (by decide) rfl ?_
  refine sk_S.iconst (v := 1) (dd DX6_speak 56 rfl) (by decide) ?_
  refine sk_S.iadd (dd DX6_speak 57 rfl) ?_
  refine sk_S.putf (dd DX6_speak 58 rfl) rfl pX6_29 se_4 (by decide) rfl rfl rfl ?_
  have xp := pshC (b := 51) hV.2.2.2.2 hV.2.2.2.1
  have hV2 := hV.up xp
  refine sk_S.aload_n (i := 0) (dd DX6_speak 59 rfl) rfl rfl ?_
  refine sk_S.iload (i := 6) (dd DX6_speak 60 rfl) rfl ?_
  refine sk_S.gets (dd DX6_speak 61 rfl) rfl gsX6_43 ?_
  refine sk_S.iload (i := 5) (dd DX6_speak 62 rfl) rfl ?_
  refine sk_S.roald (dd DX6_speak 63 rfl) rfl (j := 4) ⟨by decide, by decide, by decide⟩ rfl ?_
  refine sk_S.iload_n (i := 3) (dd DX6_speak 64 rfl) rfl rfl ?_
  refine sk_S.iload (i := 4) (dd DX6_speak 65 rfl) rfl ?_
  refine sk_S.iconst (v := 1) (dd DX6_speak 66 rfl) (by decide) ?_
  refine sk_S.iadd (dd DX6_speak 67 rfl) ?_
  refine sk_S.V (nI (dep + 1)) (nI_1 dep) ?_
  refine sk_S.callV (dd DX6_speak 68 rfl) rfl kX6_46 (cV_sy_4_4_2 (by simp only [List.length_cons, List.length_nil]; omega) (by omega) hV2) se_4 (by decide) rfl rfl rfl rfl (Nat.le_of_ble_eq_true rfl) (fun r124 h124 q124 => ?_)
  obtain ⟨x124, rfl⟩ := q124
  show sk_S _ _ _ _ _ _ (.int _ :: _) _ _
  refine sk_S.iret (dd DX6_speak 69 rfl) rfl rfl ?_
  exact ⟨xp.tr x124, rfl⟩
set_option maxRecDepth 100000 in
set_option maxHeartbeats 1000000 in
theorem cV_sy_4_0_3 {l : Launch} {E : sk_V} {d : Nat} {h : sk_M} {m x : Int32} {t n dep : Nat} (hn : n + 0 ≤ 30) (hd : dep + 0 ≤ 30) (hV : voI h 4 m t n) (hp : ¬ m - nI t = 0) : sk_K l E (d + 2) MX6_say [.ref 4, .int 13, .int (-1), .int x, .int (nI dep)] h (fun r h1 => tcQ h h1 n [] 0 ∧ some (.int (x / (m - nI t))) = r) := by
  refine sk_K.of (by decide +kernel) (Nat.le_of_ble_eq_true rfl) ?_
  show sk_S l E (d + 2) _ 0 [some (.ref 4), some (.int 13), some (.int (-1)), some (.int x), some (.int (nI dep))] [] h _
  refine sk_S.iload_n (i := 1) (dd DX6_say_p1 0 rfl) rfl rfl ?_
  · refine sk_S.lookup (off := 147) (dd DX6_say_p1 1 rfl) (by decide) (by decide) (tgt := 148) (by decide) ?_
    refine sk_S.aload_n (i := 0) (dd DX6_say_p1 28 rfl) rfl rfl ?_
    refine sk_S.iload_n (i := 3) (dd DX6_say_p1 29 rfl) rfl rfl ?_
    refine sk_S.callV (dd DX6_say_p1 30 rfl) rfl kX6_49 (cV_part hV hp) se_4 (by decide) rfl rfl rfl rfl (Nat.le_of_ble_eq_true rfl) (fun r150 h150 q150 => ?_)
    obtain ⟨x150, rfl⟩ := q150
    show sk_S _ _ _ _ _ _ (.int _ :: _) _ _
    refine sk_S.iret (dd DX6_say_p1 31 rfl) rfl rfl ?_
    exact ⟨x150, rfl⟩
set_option maxRecDepth 100000 in
set_option maxHeartbeats 1000000 in
theorem cV_sp_4_0_3 {l : Launch} {E : sk_V} {d : Nat} {h : sk_M} {m x : Int32} {t n dep : Nat} (hn : n + 1 ≤ 30) (hd : dep + 1 ≤ 30) (hV : voI h 4 m t n) (hp : ¬ m - nI t = 0) : sk_K l E (d + 3) MX6_speak [.ref 4, .int 0, .int 3, .int x, .int (nI dep)] h (fun r h1 => tcQ h h1 n [13] 0 ∧ some (.int (x / (m - nI t))) = r) := by
  refine sk_K.of (by decide +kernel) (Nat.le_of_ble_eq_true rfl) ?_
  show sk_S l E (d + 3) _ 0 [some (.ref 4), some (.int 0), some (.int 3), some (.int x), some (.int (nI dep)), none, none] [] h _
  refine sk_S.aload_n (i := 0) (dd DX6_speak 0 rfl) rfl rfl ?_
  refine sk_S.geti (dd DX6_speak 1 rfl) rfl fX6_32 se_4 (by decide) rfl ?_
  refine sk_S.if_eq (tgt := 9) (dd DX6_speak 2 rfl) (by decide) (fun c4 => ?_) (fun c4 => absurd hV.2.2.2.1 c4)
  refine sk_S.iload_n (i := 1) (dd DX6_speak 5 rfl) rfl rfl ?_
  refine sk_S.istore (i := 5) (dd DX6_speak 6 rfl) (Nat.le_of_ble_eq_true rfl) rfl ?_
  refine sk_S.iconst (v := 0) (dd DX6_speak 7 rfl) (by decide) ?_
  refine sk_S.istore (i := 6) (dd DX6_speak 8 rfl) (Nat.le_of_ble_eq_true rfl) rfl ?_
  refine sk_S.iload (i := 6) (dd DX6_speak 9 rfl) rfl ?_
  refine sk_S.bipush (v := 7) (dd DX6_speak 10 rfl) (by decide) ?_
  refine sk_S.icmp_ge (tgt := 54) (dd DX6_speak 11 rfl) (by decide) (fun c19 => absurd c19 (by decide)) (fun c19 => ?_)
  refine sk_S.iload (i := 5) (dd DX6_speak 12 rfl) rfl ?_
  refine sk_S.if_le (tgt := 54) (dd DX6_speak 13 rfl) (by decide) (fun c24 => ?_) (fun c24 => absurd (by decide) c24)
  refine sk_S.iload (i := 5) (dd DX6_speak 28 rfl) rfl ?_
  refine sk_S.if_lt (tgt := 66) (dd DX6_speak 29 rfl) (by decide) (fun c56 => absurd c56 (by decide)) (fun c56 => ?_)
  refine sk_S.iload (i := 4) (dd DX6_speak 30 rfl) rfl ?_
  refine sk_S.bipush (v := 30) (dd DX6_speak 31 rfl) (by decide) ?_
  refine sk_S.icmp_le (tgt := 68) (dd DX6_speak 32 rfl) (by decide) (fun c63 => ?_) (fun c63 => absurd (nI_le (b := 30) (by omega) (by decide)) c63)
  refine sk_S.gets (dd DX6_speak 35 rfl) rfl gsX6_40 ?_
  refine sk_S.iload (i := 5) (dd DX6_speak 36 rfl) rfl ?_
  refine sk_S.iconst (v := 4) (dd DX6_speak 37 rfl) (by decide) ?_
  refine sk_S.imul (dd DX6_speak 38 rfl) ?_
  refine sk_S.iload_n (i := 2) (dd DX6_speak 39 rfl) rfl rfl ?_
  refine sk_S.iadd (dd DX6_speak 40 rfl) ?_
  refine sk_S.roald (dd DX6_speak 41 rfl) rfl (j := 3) ⟨by decide, by decide, by decide⟩ rfl ?_
  refine sk_S.istore (i := 6) (dd DX6_speak 42 rfl) (Nat.le_of_ble_eq_true rfl) rfl ?_
  refine sk_S.aload_n (i := 0) (dd DX6_speak 43 rfl) rfl rfl ?_
  refine sk_S.geti (dd DX6_speak 44 rfl) rfl fX6_29 se_4 (by decide) rfl ?_
  refine sk_S.bipush (v := 30) (dd DX6_speak 45 rfl) (by decide) ?_
  refine sk_S.icmp_ge (tgt := 110) (dd DX6_speak 46 rfl) (by decide) (fun c86 => absurd c86 (by rw [hV.2.2.2.2]; exact nI_ge (b := 30) (by omega) (by decide))) (fun c86 => ?_)
  refine sk_S.aload_n (i := 0) (dd DX6_speak 47 rfl) rfl rfl ?_
  refine sk_S.getr (dd DX6_speak 48 rfl) rfl fX6_9 se_4 (by decide) rfl ?_
  refine sk_S.aload_n (i := 0) (dd DX6_speak 49 rfl) rfl rfl ?_
  refine sk_S.geti (dd DX6_speak 50 rfl) rfl fX6_29 se_4 (by decide) rfl ?_
  refine sk_S.iload (i := 6) (dd DX6_speak 51 rfl) rfl ?_
  refine sk_S.iast (dd DX6_speak 52 rfl) se_17 (sk_ix_nI (k := n) hV.2.2.2.2 (by omega) (by decide)) ?_
  refine sk_S.aload_n (i := 0) (dd DX6_speak 53 rfl) rfl rfl ?_
  refine sk_S.dup (dd DX6_speak 54 rfl) rfl ?_
  refine sk_S.geti (dd DX6_speak 55 rfl) rfl fX6_29 se_4 (by decide) rfl ?_
  refine sk_S.iconst (v := 1) (dd DX6_speak 56 rfl) (by decide) ?_
  refine sk_S.iadd (dd DX6_speak 57 rfl) ?_
  refine sk_S.putf (dd DX6_speak 58 rfl) rfl pX6_29 se_4 (by decide) rfl rfl rfl ?_
  have xp := pshC (b := 13) hV.2.2.2.2 hV.2.2.2.1
  have hV2 := hV.up xp
  refine sk_S.aload_n (i := 0) (dd DX6_speak 59 rfl) rfl rfl ?_
  refine sk_S.iload (i := 6) (dd DX6_speak 60 rfl) rfl ?_
  refine sk_S.gets (dd DX6_speak 61 rfl) rfl gsX6_43 ?_
  refine sk_S.iload (i := 5) (dd DX6_speak 62 rfl) rfl ?_
  refine sk_S.roald (dd DX6_speak 63 rfl) rfl (j := 0) ⟨by decide, by decide, by decide⟩ rfl ?_
  refine sk_S.iload_n (i := 3) (dd DX6_speak 64 rfl) rfl rfl ?_
  refine sk_S.iload (i := 4) (dd DX6_speak 65 rfl) rfl ?_
  refine sk_S.iconst (v := 1) (dd DX6_speak 66 rfl) (by decide) ?_
  refine sk_S.iadd (dd DX6_speak 67 rfl) ?_
  refine sk_S.V (nI (dep + 1)) (nI_1 dep) ?_
  refine sk_S.callV (dd DX6_speak 68 rfl) rfl kX6_46 (cV_sy_4_0_3 (by simp only [List.length_cons, List.length_nil]; omega) (by omega) hV2 hp) se_4 (by decide) rfl rfl rfl rfl (Nat.le_of_ble_eq_true rfl) (fun r124 h124 q124 => ?_)
  obtain ⟨x124, rfl⟩ := q124
  show sk_S _ _ _ _ _ _ (.int _ :: _) _ _
  refine sk_S.iret (dd DX6_speak 69 rfl) rfl rfl ?_
  exact ⟨xp.tr x124, rfl⟩
set_option maxRecDepth 100000 in
set_option maxHeartbeats 1000000 in
theorem cV_sy_4_4_3 {l : Launch} {E : sk_V} {d : Nat} {h : sk_M} {m x : Int32} {t n dep : Nat} (hn : n + 5 ≤ 30) (hd : dep + 5 ≤ 30) (hV : voI h 4 m t n) (hp : ¬ m - nI t = 0) : sk_K l E (d + 13) MX6_say [.ref 4, .int 21, .int 0, .int x, .int (nI dep)] h (fun r h1 => tcQ h h1 n [13, 11, 50, 20, 10] 0 ∧ some (.int ((x / (m - nI t)) + ((((1 + nI t) - 4) * 3) * 2))) = r) := by
  refine sk_K.of (by decide +kernel) (Nat.le_of_ble_eq_true rfl) ?_
  show sk_S l E (d + 13) _ 0 [some (.ref 4), some (.int 21), some (.int 0), some (.int x), some (.int (nI dep))] [] h _
  refine sk_S.iload_n (i := 1) (dd DX6_say_p1 0 rfl) rfl rfl ?_
  · refine sk_S.lookup (off := 165) (dd DX6_say_p1 1 rfl) (by decide) (by decide) (tgt := 166) (by decide) ?_
    refine sk_S.aload_n (i := 0) (dd DX6_say_p1 41 rfl) rfl rfl ?_
    refine sk_S.iload_n (i := 2) (dd DX6_say_p1 42 rfl) rfl rfl ?_
    refine sk_S.iconst (v := 3) (dd DX6_say_p1 43 rfl) (by decide) ?_
    refine sk_S.iload_n (i := 3) (dd DX6_say_p1 44 rfl) rfl rfl ?_
    refine sk_S.iload (i := 4) (dd DX6_say_p1 45 rfl) rfl ?_
    refine sk_S.callV (dd DX6_say_p1 46 rfl) rfl kX6_36 (cV_sp_4_0_3 (x := x) (by omega) (by omega) hV hp) se_4 (by decide) rfl rfl rfl rfl (Nat.le_of_ble_eq_true rfl) (fun r172 h172 q172 => ?_)
    obtain ⟨x172, rfl⟩ := q172
    show sk_S _ _ _ _ _ _ (.int _ :: _) _ _
    refine sk_S.aload_n (i := 0) (dd DX6_say_p1 47 rfl) rfl rfl ?_
    refine sk_S.aload_n (i := 0) (dd DX6_say_p1 48 rfl) rfl rfl ?_
    refine sk_S.geti (dd DX6_say_p1 49 rfl) rfl fX6_21 se_4 (by decide) rfl ?_
    refine sk_S.V 4 ((x172.2.2.2.1 3 (by decide) (by decide)).trans hV.1) ?_
    refine sk_S.iconst (v := 1) (dd DX6_say_p1 50 rfl) (by decide) ?_
    refine sk_S.iconst (v := 1) (dd DX6_say_p1 51 rfl) (by decide) ?_
    refine sk_S.iload (i := 4) (dd DX6_say_p1 52 rfl) rfl ?_
    refine sk_S.callV (dd DX6_say_p1 53 rfl) rfl kX6_36 (cV_sp_4_4_1 (x := 1) (by omega) (by omega) (hV.up x172)) se_4 (by decide) rfl rfl rfl rfl (Nat.le_of_ble_eq_true rfl) (fun r184 h184 q184 => ?_)
    obtain ⟨x184, rfl⟩ := q184
    show sk_S _ _ _ _ _ _ (.int _ :: _) _ _
    refine sk_S.iadd (dd DX6_say_p1 54 rfl) ?_
    refine sk_S.iret (dd DX6_say_p1 55 rfl) rfl rfl ?_
    exact ⟨x172.tr x184, rfl⟩
set_option maxRecDepth 100000 in
set_option maxHeartbeats 1000000 in
theorem cV_sp_4_4_3 {l : Launch} {E : sk_V} {d : Nat} {h : sk_M} {m x : Int32} {t n dep : Nat} (hn : n + 6 ≤ 30) (hd : dep + 6 ≤ 30) (hV : voI h 4 m t n) (hp : ¬ m - nI t = 0) : sk_K l E (d + 14) MX6_speak [.ref 4, .int 4, .int 3, .int x, .int (nI dep)] h (fun r h1 => tcQ h h1 n [21, 13, 11, 50, 20, 10] 0 ∧ some (.int ((x / (m - nI t)) + ((((1 + nI t) - 4) * 3) * 2))) = r) := by
  refine sk_K.of (by decide +kernel) (Nat.le_of_ble_eq_true rfl) ?_
  show sk_S l E (d + 14) _ 0 [some (.ref 4), some (.int 4), some (.int 3), some (.int x), some (.int (nI dep)), none, none] [] h _
  refine sk_S.aload_n (i := 0) (dd DX6_speak 0 rfl) rfl rfl ?_
  refine sk_S.geti (dd DX6_speak 1 rfl) rfl fX6_32 se_4 (by decide) rfl ?_
  refine sk_S.if_eq (tgt := 9) (dd DX6_speak 2 rfl) (by decide) (fun c4 => ?_) (fun c4 => absurd hV.2.2.2.1 c4)
  refine sk_S.iload_n (i := 1) (dd DX6_speak 5 rfl) rfl rfl ?_
  refine sk_S.istore (i := 5) (dd DX6_speak 6 rfl) (Nat.le_of_ble_eq_true rfl) rfl ?_
  refine sk_S.iconst (v := 0) (dd DX6_speak 7 rfl) (by decide) ?_
  refine sk_S.istore (i := 6) (dd DX6_speak 8 rfl) (Nat.le_of_ble_eq_true rfl) rfl ?_
  refine sk_S.iload (i := 6) (dd DX6_speak 9 rfl) rfl ?_
  refine sk_S.bipush (v := 7) (dd DX6_speak 10 rfl) (by decide) ?_
  refine sk_S.icmp_ge (tgt := 54) (dd DX6_speak 11 rfl) (by decide) (fun c19 => absurd c19 (by decide)) (fun c19 => ?_)
  refine sk_S.iload (i := 5) (dd DX6_speak 12 rfl) rfl ?_
  refine sk_S.if_le (tgt := 54) (dd DX6_speak 13 rfl) (by decide) (fun c24 => absurd c24 (by decide)) (fun c24 => ?_)
  refine sk_S.gets (dd DX6_speak 14 rfl) rfl gsX6_40 ?_
  refine sk_S.iload (i := 5) (dd DX6_speak 15 rfl) rfl ?_
  refine sk_S.iconst (v := 4) (dd DX6_speak 16 rfl) (by decide) ?_
  refine sk_S.imul (dd DX6_speak 17 rfl) ?_
  refine sk_S.iload_n (i := 2) (dd DX6_speak 18 rfl) rfl rfl ?_
  refine sk_S.iadd (dd DX6_speak 19 rfl) ?_
  refine sk_S.roald (dd DX6_speak 20 rfl) rfl (j := 19) ⟨by decide, by decide, by decide⟩ rfl ?_
  refine sk_S.if_ne (tgt := 54) (dd DX6_speak 21 rfl) (by decide) (fun c37 => absurd (by decide) c37) (fun c37 => ?_)
  refine sk_S.gets (dd DX6_speak 22 rfl) rfl gsX6_43 ?_
  refine sk_S.iload (i := 5) (dd DX6_speak 23 rfl) rfl ?_
  refine sk_S.roald (dd DX6_speak 24 rfl) rfl (j := 4) ⟨by decide, by decide, by decide⟩ rfl ?_
  refine sk_S.istore (i := 5) (dd DX6_speak 25 rfl) (Nat.le_of_ble_eq_true rfl) rfl ?_
  refine sk_S.iinc (i := 6) (v := _ + 1) (dd DX6_speak 26 rfl) rfl rfl rfl ?_
  refine sk_S.goto (tgt := 15) (dd DX6_speak 27 rfl) (by decide) ?_
  refine sk_S.iload (i := 6) (dd DX6_speak 9 rfl) rfl ?_
  refine sk_S.bipush (v := 7) (dd DX6_speak 10 rfl) (by decide) ?_
  refine sk_S.icmp_ge (tgt := 54) (dd DX6_speak 11 rfl) (by decide) (fun c19 => absurd c19 (by decide)) (fun c19 => ?_)
  refine sk_S.iload (i := 5) (dd DX6_speak 12 rfl) rfl ?_
  refine sk_S.if_le (tgt := 54) (dd DX6_speak 13 rfl) (by decide) (fun c24 => absurd c24 (by decide)) (fun c24 => ?_)
  refine sk_S.gets (dd DX6_speak 14 rfl) rfl gsX6_40 ?_
  refine sk_S.iload (i := 5) (dd DX6_speak 15 rfl) rfl ?_
  refine sk_S.iconst (v := 4) (dd DX6_speak 16 rfl) (by decide) ?_
  refine sk_S.imul (dd DX6_speak 17 rfl) ?_
  refine sk_S.iload_n (i := 2) (dd DX6_speak 18 rfl) rfl rfl ?_
  refine sk_S.iadd (dd DX6_speak 19 rfl) ?_
  refine sk_S.roald (dd DX6_speak 20 rfl) rfl (j := 7) ⟨by decide, by decide, by decide⟩ rfl ?_
  refine sk_S.if_ne (tgt := 54) (dd DX6_speak 21 rfl) (by decide) (fun c37 => ?_) (fun c37 => absurd c37 (by decide))
  refine sk_S.iload (i := 5) (dd DX6_speak 28 rfl) rfl ?_
  refine sk_S.if_lt (tgt := 66) (dd DX6_speak 29 rfl) (by decide) (fun c56 => absurd c56 (by decide)) (fun c56 => ?_)
  refine sk_S.iload (i := 4) (dd DX6_speak 30 rfl) rfl ?_
  refine sk_S.bipush (v := 30) (dd DX6_speak 31 rfl) (by decide) ?_
  refine sk_S.icmp_le (tgt := 68) (dd DX6_speak 32 rfl) (by decide) (fun c63 => ?_) (fun c63 => absurd (nI_le (b := 30) (by omega) (by decide)) c63)
  refine sk_S.gets (dd DX6_speak 35 rfl) rfl gsX6_40 ?_
  refine sk_S.iload (i := 5) (dd DX6_speak 36 rfl) rfl ?_
  refine sk_S.iconst (v := 4) (dd DX6_speak 37 rfl) (by decide) ?_
  refine sk_S.imul (dd DX6_speak 38 rfl) ?_
  refine sk_S.iload_n (i := 2) (dd DX6_speak 39 rfl) rfl rfl ?_
  refine sk_S.iadd (dd DX6_speak 40 rfl) ?_
  refine sk_S.roald (dd DX6_speak 41 rfl) rfl (j := 7) ⟨by decide, by decide, by decide⟩ rfl ?_
  refine sk_S.istore (i := 6) (dd DX6_speak 42 rfl) (Nat.le_of_ble_eq_true rfl) rfl ?_
  refine sk_S.aload_n (i := 0) (dd DX6_speak 43 rfl) rfl rfl ?_
  refine sk_S.geti (dd DX6_speak 44 rfl) rfl fX6_29 se_4 (by decide) rfl ?_
  refine sk_S.bipush (v := 30) (dd DX6_speak 45 rfl) (by decide) ?_
  refine sk_S.icmp_ge (tgt := 110) (dd DX6_speak 46 rfl) (by decide) (fun c86 => absurd c86 (by rw [hV.2.2.2.2]; exact nI_ge (b := 30) (by omega) (by decide))) (fun c86 => ?_)
  refine sk_S.aload_n (i := 0) (dd DX6_speak 47 rfl) rfl rfl ?_
  refine sk_S.getr (dd DX6_speak 48 rfl) rfl fX6_9 se_4 (by decide) rfl ?_
  refine sk_S.aload_n (i := 0) (dd DX6_speak 49 rfl) rfl rfl ?_
  refine sk_S.geti (dd DX6_speak 50 rfl) rfl fX6_29 se_4 (by decide) rfl ?_
  refine sk_S.iload (i := 6) (dd DX6_speak 51 rfl) rfl ?_
  refine sk_S.iast (dd DX6_speak 52 rfl) se_17 (sk_ix_nI (k := n) hV.2.2.2.2 (by omega) (by decide)) ?_
  refine sk_S.aload_n (i := 0) (dd DX6_speak 53 rfl) rfl rfl ?_
  refine sk_S.dup (dd DX6_speak 54 rfl) rfl ?_
  refine sk_S.geti (dd DX6_speak 55 rfl) rfl fX6_29 se_4 (by decide) rfl ?_
  refine sk_S.iconst (v := 1) (dd DX6_speak 56 rfl) (by decide) ?_
  refine sk_S.iadd (dd DX6_speak 57 rfl) ?_
  refine sk_S.putf (dd DX6_speak 58 rfl) rfl pX6_29 se_4 (by decide) rfl rfl rfl ?_
  have xp := pshC (b := 21) hV.2.2.2.2 hV.2.2.2.1
  have hV2 := hV.up xp
  refine sk_S.aload_n (i := 0) (dd DX6_speak 59 rfl) rfl rfl ?_
  refine sk_S.iload (i := 6) (dd DX6_speak 60 rfl) rfl ?_
  refine sk_S.gets (dd DX6_speak 61 rfl) rfl gsX6_43 ?_
  refine sk_S.iload (i := 5) (dd DX6_speak 62 rfl) rfl ?_
  refine sk_S.roald (dd DX6_speak 63 rfl) rfl (j := 1) ⟨by decide, by decide, by decide⟩ rfl ?_
  refine sk_S.iload_n (i := 3) (dd DX6_speak 64 rfl) rfl rfl ?_
  refine sk_S.iload (i := 4) (dd DX6_speak 65 rfl) rfl ?_
  refine sk_S.iconst (v := 1) (dd DX6_speak 66 rfl) (by decide) ?_
  refine sk_S.iadd (dd DX6_speak 67 rfl) ?_
  refine sk_S.V (nI (dep + 1)) (nI_1 dep) ?_
  refine sk_S.callV (dd DX6_speak 68 rfl) rfl kX6_46 (cV_sy_4_4_3 (by simp only [List.length_cons, List.length_nil]; omega) (by omega) hV2 hp) se_4 (by decide) rfl rfl rfl rfl (Nat.le_of_ble_eq_true rfl) (fun r124 h124 q124 => ?_)
  obtain ⟨x124, rfl⟩ := q124
  show sk_S _ _ _ _ _ _ (.int _ :: _) _ _
  refine sk_S.iret (dd DX6_speak 69 rfl) rfl rfl ?_
  exact ⟨xp.tr x124, rfl⟩
set_option maxRecDepth 100000 in
set_option maxHeartbeats 1000000 in
theorem cV_sy_4_0_3p {l : Launch} {E : sk_V} {d : Nat} {h : sk_M} {m x : Int32} {t n dep : Nat} (hn : n + 0 ≤ 30) (hd : dep + 0 ≤ 30) (hV : voI h 4 m t n) (hp : m - nI t = 0) : sk_K l E (d + 2) MX6_say [.ref 4, .int 13, .int (-1), .int x, .int (nI dep)] h (fun r h1 => tcQ h h1 n [] 1 ∧ some (.int (0 : Int32)) = r) := by
  refine sk_K.of (by decide +kernel) (Nat.le_of_ble_eq_true rfl) ?_
  show sk_S l E (d + 2) _ 0 [some (.ref 4), some (.int 13), some (.int (-1)), some (.int x), some (.int (nI dep))] [] h _
  refine sk_S.iload_n (i := 1) (dd DX6_say_p1 0 rfl) rfl rfl ?_
  · refine sk_S.lookup (off := 147) (dd DX6_say_p1 1 rfl) (by decide) (by decide) (tgt := 148) (by decide) ?_
    refine sk_S.aload_n (i := 0) (dd DX6_say_p1 28 rfl) rfl rfl ?_
    refine sk_S.iload_n (i := 3) (dd DX6_say_p1 29 rfl) rfl rfl ?_
    refine sk_S.callV (dd DX6_say_p1 30 rfl) rfl kX6_49 (cV_partP hV hp) se_4 (by decide) rfl rfl rfl rfl (Nat.le_of_ble_eq_true rfl) (fun r150 h150 q150 => ?_)
    obtain ⟨x150, rfl⟩ := q150
    show sk_S _ _ _ _ _ _ (.int _ :: _) _ _
    refine sk_S.iret (dd DX6_say_p1 31 rfl) rfl rfl ?_
    exact ⟨x150, rfl⟩
set_option maxRecDepth 100000 in
set_option maxHeartbeats 1000000 in
theorem cV_sp_4_0_3p {l : Launch} {E : sk_V} {d : Nat} {h : sk_M} {m x : Int32} {t n dep : Nat} (hn : n + 1 ≤ 30) (hd : dep + 1 ≤ 30) (hV : voI h 4 m t n) (hp : m - nI t = 0) : sk_K l E (d + 3) MX6_speak [.ref 4, .int 0, .int 3, .int x, .int (nI dep)] h (fun r h1 => tcQ h h1 n [13] 1 ∧ some (.int (0 : Int32)) = r) := by
  refine sk_K.of (by decide +kernel) (Nat.le_of_ble_eq_true rfl) ?_
  show sk_S l E (d + 3) _ 0 [some (.ref 4), some (.int 0), some (.int 3), some (.int x), some (.int (nI dep)), none, none] [] h _
  refine sk_S.aload_n (i := 0) (dd DX6_speak 0 rfl) rfl rfl ?_
  refine sk_S.geti (dd DX6_speak 1 rfl) rfl fX6_32 se_4 (by decide) rfl ?_
  refine sk_S.if_eq (tgt := 9) (dd DX6_speak 2 rfl) (by decide) (fun c4 => ?_) (fun c4 => absurd hV.2.2.2.1 c4)
  refine sk_S.iload_n (i := 1) (dd DX6_speak 5 rfl) rfl rfl ?_
  refine sk_S.istore (i := 5) (dd DX6_speak 6 rfl) (Nat.le_of_ble_eq_true rfl) rfl ?_
  refine sk_S.iconst (v := 0) (dd DX6_speak 7 rfl) (by decide) ?_
  refine sk_S.istore (i := 6) (dd DX6_speak 8 rfl) (Nat.le_of_ble_eq_true rfl) rfl ?_
  refine sk_S.iload (i := 6) (dd DX6_speak 9 rfl) rfl ?_
  refine sk_S.bipush (v := 7) (dd DX6_speak 10 rfl) (by decide) ?_
  refine sk_S.icmp_ge (tgt := 54) (dd DX6_speak 11 rfl) (by decide) (fun c19 => absurd c19 (by decide)) (fun c19 => ?_)
  refine sk_S.iload (i := 5) (dd DX6_speak 12 rfl) rfl ?_
  refine sk_S.if_le (tgt := 54) (dd DX6_speak 13 rfl) (by decide) (fun c24 => ?_) (fun c24 => absurd (by decide) c24)
  refine sk_S.iload (i := 5) (dd DX6_speak 28 rfl) rfl ?_
  refine sk_S.if_lt (tgt := 66) (dd DX6_speak 29 rfl) (by decide) (fun c56 => absurd c56 (by decide)) (fun c56 => ?_)
  refine sk_S.iload (i := 4) (dd DX6_speak 30 rfl) rfl ?_
  refine sk_S.bipush (v := 30) (dd DX6_speak 31 rfl) (by decide) ?_
  refine sk_S.icmp_le (tgt := 68) (dd DX6_speak 32 rfl) (by decide) (fun c63 => ?_) (fun c63 => absurd (nI_le (b := 30) (by omega) (by decide)) c63)
  refine sk_S.gets (dd DX6_speak 35 rfl) rfl gsX6_40 ?_
  refine sk_S.iload (i := 5) (dd DX6_speak 36 rfl) rfl ?_
  refine sk_S.iconst (v := 4) (dd DX6_speak 37 rfl) (by decide) ?_
  refine sk_S.imul (dd DX6_speak 38 rfl) ?_
  refine sk_S.iload_n (i := 2) (dd DX6_speak 39 rfl) rfl rfl ?_
  refine sk_S.iadd (dd DX6_speak 40 rfl) ?_
  refine sk_S.roald (dd DX6_speak 41 rfl) rfl (j := 3) ⟨by decide, by decide, by decide⟩ rfl ?_
  refine sk_S.istore (i := 6) (dd DX6_speak 42 rfl) (Nat.le_of_ble_eq_true rfl) rfl ?_
  refine sk_S.aload_n (i := 0) (dd DX6_speak 43 rfl) rfl rfl ?_
  refine sk_S.geti (dd DX6_speak 44 rfl) rfl fX6_29 se_4 (by decide) rfl ?_
  refine sk_S.bipush (v := 30) (dd DX6_speak 45 rfl) (by decide) ?_
  refine sk_S.icmp_ge (tgt := 110) (dd DX6_speak 46 rfl) (by decide) (fun c86 => absurd c86 (by rw [hV.2.2.2.2]; exact nI_ge (b := 30) (by omega) (by decide))) (fun c86 => ?_)
  refine sk_S.aload_n (i := 0) (dd DX6_speak 47 rfl) rfl rfl ?_
  refine sk_S.getr (dd DX6_speak 48 rfl) rfl fX6_9 se_4 (by decide) rfl ?_
  refine sk_S.aload_n (i := 0) (dd DX6_speak 49 rfl) rfl rfl ?_
  refine sk_S.geti (dd DX6_speak 50 rfl) rfl fX6_29 se_4 (by decide) rfl ?_
  refine sk_S.iload (i := 6) (dd DX6_speak 51 rfl) rfl ?_
  refine sk_S.iast (dd DX6_speak 52 rfl) se_17 (sk_ix_nI (k := n) hV.2.2.2.2 (by omega) (by decide)) ?_
  refine sk_S.aload_n (i := 0) (dd DX6_speak 53 rfl) rfl rfl ?_
  refine sk_S.dup (dd DX6_speak 54 rfl) rfl ?_
  refine sk_S.geti (dd DX6_speak 55 rfl) rfl fX6_29 se_4 (by decide) rfl ?_
  refine sk_S.iconst (v := 1) (dd DX6_speak 56 rfl) (by decide) ?_
  refine sk_S.iadd (dd DX6_speak 57 rfl) ?_
  refine sk_S.putf (dd DX6_speak 58 rfl) rfl pX6_29 se_4 (by decide) rfl rfl rfl ?_
  have xp := pshC (b := 13) hV.2.2.2.2 hV.2.2.2.1
  have hV2 := hV.up xp
  refine sk_S.aload_n (i := 0) (dd DX6_speak 59 rfl) rfl rfl ?_
  refine sk_S.iload (i := 6) (dd DX6_speak 60 rfl) rfl ?_
  refine sk_S.gets (dd DX6_speak 61 rfl) rfl gsX6_43 ?_
  refine sk_S.iload (i := 5) (dd DX6_speak 62 rfl) rfl ?_
  refine sk_S.roald (dd DX6_speak 63 rfl) rfl (j := 0) ⟨by decide, by decide, by decide⟩ rfl ?_
  refine sk_S.iload_n (i := 3) (dd DX6_speak 64 rfl) rfl rfl ?_
  refine sk_S.iload (i := 4) (dd DX6_speak 65 rfl) rfl ?_
  refine sk_S.iconst (v := 1) (dd DX6_speak 66 rfl) (by decide) ?_
  refine sk_S.iadd (dd DX6_speak 67 rfl) ?_
  refine sk_S.V (nI (dep + 1)) (nI_1 dep) ?_
  refine sk_S.callV (dd DX6_speak 68 rfl) rfl kX6_46 (cV_sy_4_0_3p (by simp only [List.length_cons, List.length_nil]; omega) (by omega) hV2 hp) se_4 (by decide) rfl rfl rfl rfl (Nat.le_of_ble_eq_true rfl) (fun r124 h124 q124 => ?_)
  obtain ⟨x124, rfl⟩ := q124
  show sk_S _ _ _ _ _ _ (.int _ :: _) _ _
  refine sk_S.iret (dd DX6_speak 69 rfl) rfl rfl ?_
  exact ⟨xp.tr x124, rfl⟩
set_option maxRecDepth 100000 in
set_option maxHeartbeats 1000000 in
theorem cV_sy_4_4_3p {l : Launch} {E : sk_V} {d : Nat} {h : sk_M} {m x : Int32} {t n dep : Nat} (hn : n + 1 ≤ 30) (hd : dep + 1 ≤ 30) (hV : voI h 4 m t n) (hp : m - nI t = 0) : sk_K l E (d + 5) MX6_say [.ref 4, .int 21, .int 0, .int x, .int (nI dep)] h (fun r h1 => tcQ h h1 n [13] 1 ∧ some (.int ((0 : Int32) + 0)) = r) := by
  refine sk_K.of (by decide +kernel) (Nat.le_of_ble_eq_true rfl) ?_
  show sk_S l E (d + 5) _ 0 [some (.ref 4), some (.int 21), some (.int 0), some (.int x), some (.int (nI dep))] [] h _
  refine sk_S.iload_n (i := 1) (dd DX6_say_p1 0 rfl) rfl rfl ?_
  · refine sk_S.lookup (off := 165) (dd DX6_say_p1 1 rfl) (by decide) (by decide) (tgt := 166) (by decide) ?_
    refine sk_S.aload_n (i := 0) (dd DX6_say_p1 41 rfl) rfl rfl ?_
    refine sk_S.iload_n (i := 2) (dd DX6_say_p1 42 rfl) rfl rfl ?_
    refine sk_S.iconst (v := 3) (dd DX6_say_p1 43 rfl) (by decide) ?_
    refine sk_S.iload_n (i := 3) (dd DX6_say_p1 44 rfl) rfl rfl ?_
    refine sk_S.iload (i := 4) (dd DX6_say_p1 45 rfl) rfl ?_
    refine sk_S.callV (dd DX6_say_p1 46 rfl) rfl kX6_36 (cV_sp_4_0_3p (x := x) (by omega) (by omega) hV hp) se_4 (by decide) rfl rfl rfl rfl (Nat.le_of_ble_eq_true rfl) (fun r172 h172 q172 => ?_)
    obtain ⟨x172, rfl⟩ := q172
    show sk_S _ _ _ _ _ _ (.int _ :: _) _ _
    refine sk_S.aload_n (i := 0) (dd DX6_say_p1 47 rfl) rfl rfl ?_
    refine sk_S.aload_n (i := 0) (dd DX6_say_p1 48 rfl) rfl rfl ?_
    refine sk_S.geti (dd DX6_say_p1 49 rfl) rfl fX6_21 se_4 (by decide) rfl ?_
    refine sk_S.V 4 ((x172.2.2.2.1 3 (by decide) (by decide)).trans hV.1) ?_
    refine sk_S.iconst (v := 1) (dd DX6_say_p1 50 rfl) (by decide) ?_
    refine sk_S.iconst (v := 1) (dd DX6_say_p1 51 rfl) (by decide) ?_
    refine sk_S.iload (i := 4) (dd DX6_say_p1 52 rfl) rfl ?_
    refine sk_S.callV (dd DX6_say_p1 53 rfl) rfl kX6_36 (cV_spP x172.2.2.1) se_4 (by decide) rfl rfl rfl rfl (Nat.le_of_ble_eq_true rfl) (fun r184 h184 q184 => ?_)
    obtain ⟨rfl, rfl⟩ := q184
    show sk_S _ _ _ _ _ _ (.int _ :: _) _ _
    refine sk_S.iadd (dd DX6_say_p1 54 rfl) ?_
    refine sk_S.iret (dd DX6_say_p1 55 rfl) rfl rfl ?_
    exact ⟨x172, rfl⟩
set_option maxRecDepth 100000 in
set_option maxHeartbeats 1000000 in
theorem cV_sp_4_4_3p {l : Launch} {E : sk_V} {d : Nat} {h : sk_M} {m x : Int32} {t n dep : Nat} (hn : n + 2 ≤ 30) (hd : dep + 2 ≤ 30) (hV : voI h 4 m t n) (hp : m - nI t = 0) : sk_K l E (d + 6) MX6_speak [.ref 4, .int 4, .int 3, .int x, .int (nI dep)] h (fun r h1 => tcQ h h1 n [21, 13] 1 ∧ some (.int ((0 : Int32) + 0)) = r) := by
  refine sk_K.of (by decide +kernel) (Nat.le_of_ble_eq_true rfl) ?_
  show sk_S l E (d + 6) _ 0 [some (.ref 4), some (.int 4), some (.int 3), some (.int x), some (.int (nI dep)), none, none] [] h _
  refine sk_S.aload_n (i := 0) (dd DX6_speak 0 rfl) rfl rfl ?_
  refine sk_S.geti (dd DX6_speak 1 rfl) rfl fX6_32 se_4 (by decide) rfl ?_
  refine sk_S.if_eq (tgt := 9) (dd DX6_speak 2 rfl) (by decide) (fun c4 => ?_) (fun c4 => absurd hV.2.2.2.1 c4)
  refine sk_S.iload_n (i := 1) (dd DX6_speak 5 rfl) rfl rfl ?_
  refine sk_S.istore (i := 5) (dd DX6_speak 6 rfl) (Nat.le_of_ble_eq_true rfl) rfl ?_
  refine sk_S.iconst (v := 0) (dd DX6_speak 7 rfl) (by decide) ?_
  refine sk_S.istore (i := 6) (dd DX6_speak 8 rfl) (Nat.le_of_ble_eq_true rfl) rfl ?_
  refine sk_S.iload (i := 6) (dd DX6_speak 9 rfl) rfl ?_
  refine sk_S.bipush (v := 7) (dd DX6_speak 10 rfl) (by decide) ?_
  refine sk_S.icmp_ge (tgt := 54) (dd DX6_speak 11 rfl) (by decide) (fun c19 => absurd c19 (by decide)) (fun c19 => ?_)
  refine sk_S.iload (i := 5) (dd DX6_speak 12 rfl) rfl ?_
  refine sk_S.if_le (tgt := 54) (dd DX6_speak 13 rfl) (by decide) (fun c24 => absurd c24 (by decide)) (fun c24 => ?_)
  refine sk_S.gets (dd DX6_speak 14 rfl) rfl gsX6_40 ?_
  refine sk_S.iload (i := 5) (dd DX6_speak 15 rfl) rfl ?_
  refine sk_S.iconst (v := 4) (dd DX6_speak 16 rfl) (by decide) ?_
  refine sk_S.imul (dd DX6_speak 17 rfl) ?_
  refine sk_S.iload_n (i := 2) (dd DX6_speak 18 rfl) rfl rfl ?_
  refine sk_S.iadd (dd DX6_speak 19 rfl) ?_
  refine sk_S.roald (dd DX6_speak 20 rfl) rfl (j := 19) ⟨by decide, by decide, by decide⟩ rfl ?_
  refine sk_S.if_ne (tgt := 54) (dd DX6_speak 21 rfl) (by decide) (fun c37 => absurd (by decide) c37) (fun c37 => ?_)
  refine sk_S.gets (dd DX6_speak 22 rfl) rfl gsX6_43 ?_
  refine sk_S.iload (i := 5) (dd DX6_speak 23 rfl) rfl ?_
  refine sk_S.roald (dd DX6_speak 24 rfl) rfl (j := 4) ⟨by decide, by decide, by decide⟩ rfl ?_
  refine sk_S.istore (i := 5) (dd DX6_speak 25 rfl) (Nat.le_of_ble_eq_true rfl) rfl ?_
  refine sk_S.iinc (i := 6) (v := _ + 1) (dd DX6_speak 26 rfl) rfl rfl rfl ?_
  refine sk_S.goto (tgt := 15) (dd DX6_speak 27 rfl) (by decide) ?_
  refine sk_S.iload (i := 6) (dd DX6_speak 9 rfl) rfl ?_
  refine sk_S.bipush (v := 7) (dd DX6_speak 10 rfl) (by decide) ?_
  refine sk_S.icmp_ge (tgt := 54) (dd DX6_speak 11 rfl) (by decide) (fun c19 => absurd c19 (by decide)) (fun c19 => ?_)
  refine sk_S.iload (i := 5) (dd DX6_speak 12 rfl) rfl ?_
  refine sk_S.if_le (tgt := 54) (dd DX6_speak 13 rfl) (by decide) (fun c24 => absurd c24 (by decide)) (fun c24 => ?_)
  refine sk_S.gets (dd DX6_speak 14 rfl) rfl gsX6_40 ?_
  refine sk_S.iload (i := 5) (dd DX6_speak 15 rfl) rfl ?_
  refine sk_S.iconst (v := 4) (dd DX6_speak 16 rfl) (by decide) ?_
  refine sk_S.imul (dd DX6_speak 17 rfl) ?_
  refine sk_S.iload_n (i := 2) (dd DX6_speak 18 rfl) rfl rfl ?_
  refine sk_S.iadd (dd DX6_speak 19 rfl) ?_
  refine sk_S.roald (dd DX6_speak 20 rfl) rfl (j := 7) ⟨by decide, by decide, by decide⟩ rfl ?_
  refine sk_S.if_ne (tgt := 54) (dd DX6_speak 21 rfl) (by decide) (fun c37 => ?_) (fun c37 => absurd c37 (by decide))
  refine sk_S.iload (i := 5) (dd DX6_speak 28 rfl) rfl ?_
  refine sk_S.if_lt (tgt := 66) (dd DX6_speak 29 rfl) (by decide) (fun c56 => absurd c56 (by decide)) (fun c56 => ?_)
  refine sk_S.iload (i := 4) (dd DX6_speak 30 rfl) rfl ?_
  refine sk_S.bipush (v := 30) (dd DX6_speak 31 rfl) (by decide) ?_
  refine sk_S.icmp_le (tgt := 68) (dd DX6_speak 32 rfl) (by decide) (fun c63 => ?_) (fun c63 => absurd (nI_le (b := 30) (by omega) (by decide)) c63)
  refine sk_S.gets (dd DX6_speak 35 rfl) rfl gsX6_40 ?_
  refine sk_S.iload (i := 5) (dd DX6_speak 36 rfl) rfl ?_
  refine sk_S.iconst (v := 4) (dd DX6_speak 37 rfl) (by decide) ?_
  refine sk_S.imul (dd DX6_speak 38 rfl) ?_
  refine sk_S.iload_n (i := 2) (dd DX6_speak 39 rfl) rfl rfl ?_
  refine sk_S.iadd (dd DX6_speak 40 rfl) ?_
  refine sk_S.roald (dd DX6_speak 41 rfl) rfl (j := 7) ⟨by decide, by decide, by decide⟩ rfl ?_
  refine sk_S.istore (i := 6) (dd DX6_speak 42 rfl) (Nat.le_of_ble_eq_true rfl) rfl ?_
  refine sk_S.aload_n (i := 0) (dd DX6_speak 43 rfl) rfl rfl ?_
  refine sk_S.geti (dd DX6_speak 44 rfl) rfl fX6_29 se_4 (by decide) rfl ?_
  refine sk_S.bipush (v := 30) (dd DX6_speak 45 rfl) (by decide) ?_
  refine sk_S.icmp_ge (tgt := 110) (dd DX6_speak 46 rfl) (by decide) (fun c86 => absurd c86 (by rw [hV.2.2.2.2]; exact nI_ge (b := 30) (by omega) (by decide))) (fun c86 => ?_)
  refine sk_S.aload_n (i := 0) (dd DX6_speak 47 rfl) rfl rfl ?_
  refine sk_S.getr (dd DX6_speak 48 rfl) rfl fX6_9 se_4 (by decide) rfl ?_
  refine sk_S.aload_n (i := 0) (dd DX6_speak 49 rfl) rfl rfl ?_
  refine sk_S.geti (dd DX6_speak 50 rfl) rfl fX6_29 se_4 (by decide) rfl ?_
  refine sk_S.iload (i := 6) (dd DX6_speak 51 rfl) rfl ?_
  refine sk_S.iast (dd DX6_speak 52 rfl) se_17 (sk_ix_nI (k := n) hV.2.2.2.2 (by omega) (by decide)) ?_
  refine sk_S.aload_n (i := 0) (dd DX6_speak 53 rfl) rfl rfl ?_
  refine sk_S.dup (dd DX6_speak 54 rfl) rfl ?_
  refine sk_S.geti (dd DX6_speak 55 rfl) rfl fX6_29 se_4 (by decide) rfl ?_
  refine sk_S.iconst (v := 1) (dd DX6_speak 56 rfl) (by decide) ?_
  refine sk_S.iadd (dd DX6_speak 57 rfl) ?_
  refine sk_S.putf (dd DX6_speak 58 rfl) rfl pX6_29 se_4 (by decide) rfl rfl rfl ?_
  have xp := pshC (b := 21) hV.2.2.2.2 hV.2.2.2.1
  have hV2 := hV.up xp
  refine sk_S.aload_n (i := 0) (dd DX6_speak 59 rfl) rfl rfl ?_
  refine sk_S.iload (i := 6) (dd DX6_speak 60 rfl) rfl ?_
  refine sk_S.gets (dd DX6_speak 61 rfl) rfl gsX6_43 ?_
  refine sk_S.iload (i := 5) (dd DX6_speak 62 rfl) rfl ?_
  refine sk_S.roald (dd DX6_speak 63 rfl) rfl (j := 1) ⟨by decide, by decide, by decide⟩ rfl ?_
  refine sk_S.iload_n (i := 3) (dd DX6_speak 64 rfl) rfl rfl ?_
  refine sk_S.iload (i := 4) (dd DX6_speak 65 rfl) rfl ?_
  refine sk_S.iconst (v := 1) (dd DX6_speak 66 rfl) (by decide) ?_
  refine sk_S.iadd (dd DX6_speak 67 rfl) ?_
  refine sk_S.V (nI (dep + 1)) (nI_1 dep) ?_
  refine sk_S.callV (dd DX6_speak 68 rfl) rfl kX6_46 (cV_sy_4_4_3p (by simp only [List.length_cons, List.length_nil]; omega) (by omega) hV2 hp) se_4 (by decide) rfl rfl rfl rfl (Nat.le_of_ble_eq_true rfl) (fun r124 h124 q124 => ?_)
  obtain ⟨x124, rfl⟩ := q124
  show sk_S _ _ _ _ _ _ (.int _ :: _) _ _
  refine sk_S.iret (dd DX6_speak 69 rfl) rfl rfl ?_
  exact ⟨xp.tr x124, rfl⟩
set_option maxRecDepth 100000 in
set_option maxHeartbeats 1000000 in
theorem cV_sy_5_5_0 {l : Launch} {E : sk_V} {d : Nat} {h : sk_M} {m x : Int32} {t n dep : Nat} (hn : n + 0 ≤ 30) (hd : dep + 0 ≤ 30) (hV : voI h 5 m t n) : sk_K l E (d + 1) MX6_say [.ref 4, .int 10, .int (-1), .int x, .int (nI dep)] h (fun r h1 => tcQ h h1 n [] 0 ∧ some (.int (x + nI t)) = r) := by
  refine sk_K.of (by decide +kernel) (Nat.le_of_ble_eq_true rfl) ?_
  show sk_S l E (d + 1) _ 0 [some (.ref 4), some (.int 10), some (.int (-1)), some (.int x), some (.int (nI dep))] [] h _
  refine sk_S.iload_n (i := 1) (dd DX6_say_p1 0 rfl) rfl rfl ?_
  · refine sk_S.lookup (off := 107) (dd DX6_say_p1 1 rfl) (by decide) (by decide) (tgt := 108) (by decide) ?_
    refine sk_S.iload_n (i := 3) (dd DX6_say_p1 2 rfl) rfl rfl ?_
    refine sk_S.aload_n (i := 0) (dd DX6_say_p1 3 rfl) rfl rfl ?_
    refine sk_S.geti (dd DX6_say_p1 4 rfl) rfl fX6_26 se_4 (by decide) rfl ?_
    refine sk_S.V (nI t) hV.2.1 ?_
    refine sk_S.iadd (dd DX6_say_p1 5 rfl) ?_
    refine sk_S.iret (dd DX6_say_p1 6 rfl) rfl rfl ?_
    have e := tcQ.rf hV.2.2.2.2
    rw [hV.2.2.2.1] at e
    exact ⟨e, rfl⟩
set_option maxRecDepth 100000 in
set_option maxHeartbeats 1000000 in
theorem cV_sp_5_5_0 {l : Launch} {E : sk_V} {d : Nat} {h : sk_M} {m x : Int32} {t n dep : Nat} (hn : n + 1 ≤ 30) (hd : dep + 1 ≤ 30) (hV : voI h 5 m t n) : sk_K l E (d + 2) MX6_speak [.ref 4, .int 5, .int 0, .int x, .int (nI dep)] h (fun r h1 => tcQ h h1 n [10] 0 ∧ some (.int (x + nI t)) = r) := by
  refine sk_K.of (by decide +kernel) (Nat.le_of_ble_eq_true rfl) ?_
  show sk_S l E (d + 2) _ 0 [some (.ref 4), some (.int 5), some (.int 0), some (.int x), some (.int (nI dep)), none, none] [] h _
  refine sk_S.aload_n (i := 0) (dd DX6_speak 0 rfl) rfl rfl ?_
  refine sk_S.geti (dd DX6_speak 1 rfl) rfl fX6_32 se_4 (by decide) rfl ?_
  refine sk_S.if_eq (tgt := 9) (dd DX6_speak 2 rfl) (by decide) (fun c4 => ?_) (fun c4 => absurd hV.2.2.2.1 c4)
  refine sk_S.iload_n (i := 1) (dd DX6_speak 5 rfl) rfl rfl ?_
  refine sk_S.istore (i := 5) (dd DX6_speak 6 rfl) (Nat.le_of_ble_eq_true rfl) rfl ?_
  refine sk_S.iconst (v := 0) (dd DX6_speak 7 rfl) (by decide) ?_
  refine sk_S.istore (i := 6) (dd DX6_speak 8 rfl) (Nat.le_of_ble_eq_true rfl) rfl ?_
  refine sk_S.iload (i := 6) (dd DX6_speak 9 rfl) rfl ?_
  refine sk_S.bipush (v := 7) (dd DX6_speak 10 rfl) (by decide) ?_
  refine sk_S.icmp_ge (tgt := 54) (dd DX6_speak 11 rfl) (by decide) (fun c19 => absurd c19 (by decide)) (fun c19 => ?_)
  refine sk_S.iload (i := 5) (dd DX6_speak 12 rfl) rfl ?_
  refine sk_S.if_le (tgt := 54) (dd DX6_speak 13 rfl) (by decide) (fun c24 => absurd c24 (by decide)) (fun c24 => ?_)
  refine sk_S.gets (dd DX6_speak 14 rfl) rfl gsX6_40 ?_
  refine sk_S.iload (i := 5) (dd DX6_speak 15 rfl) rfl ?_
  refine sk_S.iconst (v := 4) (dd DX6_speak 16 rfl) (by decide) ?_
  refine sk_S.imul (dd DX6_speak 17 rfl) ?_
  refine sk_S.iload_n (i := 2) (dd DX6_speak 18 rfl) rfl rfl ?_
  refine sk_S.iadd (dd DX6_speak 19 rfl) ?_
  refine sk_S.roald (dd DX6_speak 20 rfl) rfl (j := 20) ⟨by decide, by decide, by decide⟩ rfl ?_
  refine sk_S.if_ne (tgt := 54) (dd DX6_speak 21 rfl) (by decide) (fun c37 => absurd (by decide) c37) (fun c37 => ?_)
  refine sk_S.gets (dd DX6_speak 22 rfl) rfl gsX6_43 ?_
  refine sk_S.iload (i := 5) (dd DX6_speak 23 rfl) rfl ?_
  refine sk_S.roald (dd DX6_speak 24 rfl) rfl (j := 5) ⟨by decide, by decide, by decide⟩ rfl ?_
  refine sk_S.istore (i := 5) (dd DX6_speak 25 rfl) (Nat.le_of_ble_eq_true rfl) rfl ?_
  refine sk_S.iinc (i := 6) (v := _ + 1) (dd DX6_speak 26 rfl) rfl rfl rfl ?_
  refine sk_S.goto (tgt := 15) (dd DX6_speak 27 rfl) (by decide) ?_
  refine sk_S.iload (i := 6) (dd DX6_speak 9 rfl) rfl ?_
  refine sk_S.bipush (v := 7) (dd DX6_speak 10 rfl) (by decide) ?_
  refine sk_S.icmp_ge (tgt := 54) (dd DX6_speak 11 rfl) (by decide) (fun c19 => absurd c19 (by decide)) (fun c19 => ?_)
  refine sk_S.iload (i := 5) (dd DX6_speak 12 rfl) rfl ?_
  refine sk_S.if_le (tgt := 54) (dd DX6_speak 13 rfl) (by decide) (fun c24 => absurd c24 (by decide)) (fun c24 => ?_)
  refine sk_S.gets (dd DX6_speak 14 rfl) rfl gsX6_40 ?_
  refine sk_S.iload (i := 5) (dd DX6_speak 15 rfl) rfl ?_
  refine sk_S.iconst (v := 4) (dd DX6_speak 16 rfl) (by decide) ?_
  refine sk_S.imul (dd DX6_speak 17 rfl) ?_
  refine sk_S.iload_n (i := 2) (dd DX6_speak 18 rfl) rfl rfl ?_
  refine sk_S.iadd (dd DX6_speak 19 rfl) ?_
  refine sk_S.roald (dd DX6_speak 20 rfl) rfl (j := 8) ⟨by decide, by decide, by decide⟩ rfl ?_
  refine sk_S.if_ne (tgt := 54) (dd DX6_speak 21 rfl) (by decide) (fun c37 => absurd (by decide) c37) (fun c37 => ?_)
  refine sk_S.gets (dd DX6_speak 22 rfl) rfl gsX6_43 ?_
  refine sk_S.iload (i := 5) (dd DX6_speak 23 rfl) rfl ?_
  refine sk_S.roald (dd DX6_speak 24 rfl) rfl (j := 2) ⟨by decide, by decide, by decide⟩ rfl ?_
  refine sk_S.istore (i := 5) (dd DX6_speak 25 rfl) (Nat.le_of_ble_eq_true rfl) rfl ?_
  refine sk_S.iinc (i := 6) (v := _ + 1) (dd DX6_speak 26 rfl) rfl rfl rfl ?_
  refine sk_S.goto (tgt := 15) (dd DX6_speak 27 rfl) (by decide) ?_
  refine sk_S.iload (i := 6) (dd DX6_speak 9 rfl) rfl ?_
  refine sk_S.bipush (v := 7) (dd DX6_speak 10 rfl) (by decide) ?_
  refine sk_S.icmp_ge (tgt := 54) (dd DX6_speak 11 rfl) (by decide) (fun c19 => absurd c19 (by decide)) (fun c19 => ?_)
  refine sk_S.iload (i := 5) (dd DX6_speak 12 rfl) rfl ?_
  refine sk_S.if_le (tgt := 54) (dd DX6_speak 13 rfl) (by decide) (fun c24 => ?_) (fun c24 => absurd (by decide) c24)
  refine sk_S.iload (i := 5) (dd DX6_speak 28 rfl) rfl ?_
  refine sk_S.if_lt (tgt := 66) (dd DX6_speak 29 rfl) (by decide) (fun c56 => absurd c56 (by decide)) (fun c56 => ?_)
  refine sk_S.iload (i := 4) (dd DX6_speak 30 rfl) rfl ?_
  refine sk_S.bipush (v := 30) (dd DX6_speak 31 rfl) (by decide) ?_
  refine sk_S.icmp_le (tgt := 68) (dd DX6_speak 32 rfl) (by decide) (fun c63 => ?_) (fun c63 => absurd (nI_le (b := 30) (by omega) (by decide)) c63)
  refine sk_S.gets (dd DX6_speak 35 rfl) rfl gsX6_40 ?_
  refine sk_S.iload (i := 5) (dd DX6_speak 36 rfl) rfl ?_
  refine sk_S.iconst (v := 4) (dd DX6_speak 37 rfl) (by decide) ?_
  refine sk_S.imul (dd DX6_speak 38 rfl) ?_
  refine sk_S.iload_n (i := 2) (dd DX6_speak 39 rfl) rfl rfl ?_
  refine sk_S.iadd (dd DX6_speak 40 rfl) ?_
  refine sk_S.roald (dd DX6_speak 41 rfl) rfl (j := 0) ⟨by decide, by decide, by decide⟩ rfl ?_
  refine sk_S.istore (i := 6) (dd DX6_speak 42 rfl) (Nat.le_of_ble_eq_true rfl) rfl ?_
  refine sk_S.aload_n (i := 0) (dd DX6_speak 43 rfl) rfl rfl ?_
  refine sk_S.geti (dd DX6_speak 44 rfl) rfl fX6_29 se_4 (by decide) rfl ?_
  refine sk_S.bipush (v := 30) (dd DX6_speak 45 rfl) (by decide) ?_
  refine sk_S.icmp_ge (tgt := 110) (dd DX6_speak 46 rfl) (by decide) (fun c86 => absurd c86 (by rw [hV.2.2.2.2]; exact nI_ge (b := 30) (by omega) (by decide))) (fun c86 => ?_)
  refine sk_S.aload_n (i := 0) (dd DX6_speak 47 rfl) rfl rfl ?_
  refine sk_S.getr (dd DX6_speak 48 rfl) rfl fX6_9 se_4 (by decide) rfl ?_
  refine sk_S.aload_n (i := 0) (dd DX6_speak 49 rfl) rfl rfl ?_
  refine sk_S.geti (dd DX6_speak 50 rfl) rfl fX6_29 se_4 (by decide) rfl ?_
  refine sk_S.iload (i := 6) (dd DX6_speak 51 rfl) rfl ?_
  refine sk_S.iast (dd DX6_speak 52 rfl) se_17 (sk_ix_nI (k := n) hV.2.2.2.2 (by omega) (by decide)) ?_
  refine sk_S.aload_n (i := 0) (dd DX6_speak 53 rfl) rfl rfl ?_
  refine sk_S.dup (dd DX6_speak 54 rfl) rfl ?_
  refine sk_S.geti (dd DX6_speak 55 rfl) rfl fX6_29 se_4 (by decide) rfl ?_
  refine sk_S.iconst (v := 1) (dd DX6_speak 56 rfl) (by decide) ?_
  refine sk_S.iadd (dd DX6_speak 57 rfl) ?_
  refine sk_S.putf (dd DX6_speak 58 rfl) rfl pX6_29 se_4 (by decide) rfl rfl rfl ?_
  have xp := pshC (b := 10) hV.2.2.2.2 hV.2.2.2.1
  have hV2 := hV.up xp
  refine sk_S.aload_n (i := 0) (dd DX6_speak 59 rfl) rfl rfl ?_
  refine sk_S.iload (i := 6) (dd DX6_speak 60 rfl) rfl ?_
  refine sk_S.gets (dd DX6_speak 61 rfl) rfl gsX6_43 ?_
  refine sk_S.iload (i := 5) (dd DX6_speak 62 rfl) rfl ?_
  refine sk_S.roald (dd DX6_speak 63 rfl) rfl (j := 0) ⟨by decide, by decide, by decide⟩ rfl ?_
  refine sk_S.iload_n (i := 3) (dd DX6_speak 64 rfl) rfl rfl ?_
  refine sk_S.iload (i := 4) (dd DX6_speak 65 rfl) rfl ?_
  refine sk_S.iconst (v := 1) (dd DX6_speak 66 rfl) (by decide) ?_
  refine sk_S.iadd (dd DX6_speak 67 rfl) ?_
  refine sk_S.V (nI (dep + 1)) (nI_1 dep) ?_
  refine sk_S.callV (dd DX6_speak 68 rfl) rfl kX6_46 (cV_sy_5_5_0 (by simp only [List.length_cons, List.length_nil]; omega) (by omega) hV2) se_4 (by decide) rfl rfl rfl rfl (Nat.le_of_ble_eq_true rfl) (fun r124 h124 q124 => ?_)
  obtain ⟨x124, rfl⟩ := q124
  show sk_S _ _ _ _ _ _ (.int _ :: _) _ _
  refine sk_S.iret (dd DX6_speak 69 rfl) rfl rfl ?_
  exact ⟨xp.tr x124, rfl⟩
set_option maxRecDepth 100000 in
set_option maxHeartbeats 1000000 in
theorem cV_sy_5_0_1 {l : Launch} {E : sk_V} {d : Nat} {h : sk_M} {m x : Int32} {t n dep : Nat} (hn : n + 1 ≤ 30) (hd : dep + 1 ≤ 30) (hV : voI h 5 m t n) : sk_K l E (d + 4) MX6_say [.ref 4, .int 11, .int (-1), .int x, .int (nI dep)] h (fun r h1 => tcQ h h1 n [10] 0 ∧ some (.int ((x + nI t) * 2)) = r) := by
  refine sk_K.of (by decide +kernel) (Nat.le_of_ble_eq_true rfl) ?_
  show sk_S l E (d + 4) _ 0 [some (.ref 4), some (.int 11), some (.int (-1)), some (.int x), some (.int (nI dep))] [] h _
  refine sk_S.iload_n (i := 1) (dd DX6_say_p1 0 rfl) rfl rfl ?_
  · refine sk_S.lookup (off := 114) (dd DX6_say_p1 1 rfl) (by decide) (by decide) (tgt := 115) (by decide) ?_
    refine sk_S.aload_n (i := 0) (dd DX6_say_p1 7 rfl) rfl rfl ?_
    refine sk_S.aload_n (i := 0) (dd DX6_say_p1 8 rfl) rfl rfl ?_
    refine sk_S.geti (dd DX6_say_p1 9 rfl) rfl fX6_21 se_4 (by decide) rfl ?_
    refine sk_S.V 5 hV.1 ?_
    refine sk_S.iconst (v := 0) (dd DX6_say_p1 10 rfl) (by decide) ?_
    refine sk_S.iload_n (i := 3) (dd DX6_say_p1 11 rfl) rfl rfl ?_
    refine sk_S.iload (i := 4) (dd DX6_say_p1 12 rfl) rfl ?_
    refine sk_S.callV (dd DX6_say_p1 13 rfl) rfl kX6_36 (cV_sp_5_5_0 (x := x) (by omega) (by omega) hV) se_4 (by decide) rfl rfl rfl rfl (Nat.le_of_ble_eq_true rfl) (fun r124 h124 q124 => ?_)
    obtain ⟨x124, rfl⟩ := q124
    show sk_S _ _ _ _ _ _ (.int _ :: _) _ _
    refine sk_S.iconst (v := 2) (dd DX6_say_p1 14 rfl) (by decide) ?_
    refine sk_S.imul (dd DX6_say_p1 15 rfl) ?_
    refine sk_S.iret (dd DX6_say_p1 16 rfl) rfl rfl ?_
    exact ⟨x124, rfl⟩
set_option maxRecDepth 100000 in
set_option maxHeartbeats 1000000 in
theorem cV_sp_5_0_1 {l : Launch} {E : sk_V} {d : Nat} {h : sk_M} {m x : Int32} {t n dep : Nat} (hn : n + 2 ≤ 30) (hd : dep + 2 ≤ 30) (hV : voI h 5 m t n) : sk_K l E (d + 5) MX6_speak [.ref 4, .int 0, .int 1, .int x, .int (nI dep)] h (fun r h1 => tcQ h h1 n [11, 10] 0 ∧ some (.int ((x + nI t) * 2)) = r) := by
  refine sk_K.of (by decide +kernel) (Nat.le_of_ble_eq_true rfl) ?_
  show sk_S l E (d + 5) _ 0 [some (.ref 4), some (.int 0), some (.int 1), some (.int x), some (.int (nI dep)), none, none] [] h _
  refine sk_S.aload_n (i := 0) (dd DX6_speak 0 rfl) rfl rfl ?_
  refine sk_S.geti (dd DX6_speak 1 rfl) rfl fX6_32 se_4 (by decide) rfl ?_
  refine sk_S.if_eq (tgt := 9) (dd DX6_speak 2 rfl) (by decide) (fun c4 => ?_) (fun c4 => absurd hV.2.2.2.1 c4)
  refine sk_S.iload_n (i := 1) (dd DX6_speak 5 rfl) rfl rfl ?_
  refine sk_S.istore (i := 5) (dd DX6_speak 6 rfl) (Nat.le_of_ble_eq_true rfl) rfl ?_
  refine sk_S.iconst (v := 0) (dd DX6_speak 7 rfl) (by decide) ?_
  refine sk_S.istore (i := 6) (dd DX6_speak 8 rfl) (Nat.le_of_ble_eq_true rfl) rfl ?_
  refine sk_S.iload (i := 6) (dd DX6_speak 9 rfl) rfl ?_
  refine sk_S.bipush (v := 7) (dd DX6_speak 10 rfl) (by decide) ?_
  refine sk_S.icmp_ge (tgt := 54) (dd DX6_speak 11 rfl) (by decide) (fun c19 => absurd c19 (by decide)) (fun c19 => ?_)
  refine sk_S.iload (i := 5) (dd DX6_speak 12 rfl) rfl ?_
  refine sk_S.if_le (tgt := 54) (dd DX6_speak 13 rfl) (by decide) (fun c24 => ?_) (fun c24 => absurd (by decide) c24)
  refine sk_S.iload (i := 5) (dd DX6_speak 28 rfl) rfl ?_
  refine sk_S.if_lt (tgt := 66) (dd DX6_speak 29 rfl) (by decide) (fun c56 => absurd c56 (by decide)) (fun c56 => ?_)
  refine sk_S.iload (i := 4) (dd DX6_speak 30 rfl) rfl ?_
  refine sk_S.bipush (v := 30) (dd DX6_speak 31 rfl) (by decide) ?_
  refine sk_S.icmp_le (tgt := 68) (dd DX6_speak 32 rfl) (by decide) (fun c63 => ?_) (fun c63 => absurd (nI_le (b := 30) (by omega) (by decide)) c63)
  refine sk_S.gets (dd DX6_speak 35 rfl) rfl gsX6_40 ?_
  refine sk_S.iload (i := 5) (dd DX6_speak 36 rfl) rfl ?_
  refine sk_S.iconst (v := 4) (dd DX6_speak 37 rfl) (by decide) ?_
  refine sk_S.imul (dd DX6_speak 38 rfl) ?_
  refine sk_S.iload_n (i := 2) (dd DX6_speak 39 rfl) rfl rfl ?_
  refine sk_S.iadd (dd DX6_speak 40 rfl) ?_
  refine sk_S.roald (dd DX6_speak 41 rfl) rfl (j := 1) ⟨by decide, by decide, by decide⟩ rfl ?_
  refine sk_S.istore (i := 6) (dd DX6_speak 42 rfl) (Nat.le_of_ble_eq_true rfl) rfl ?_
  refine sk_S.aload_n (i := 0) (dd DX6_speak 43 rfl) rfl rfl ?_
  refine sk_S.geti (dd DX6_speak 44 rfl) rfl fX6_29 se_4 (by decide) rfl ?_
  refine sk_S.bipush (v := 30) (dd DX6_speak 45 rfl) (by decide) ?_
  refine sk_S.icmp_ge (tgt := 110) (dd DX6_speak 46 rfl) (by decide) (fun c86 => absurd c86 (by rw [hV.2.2.2.2]; exact nI_ge (b := 30) (by omega) (by decide))) (fun c86 => ?_)
  refine sk_S.aload_n (i := 0) (dd DX6_speak 47 rfl) rfl rfl ?_
  refine sk_S.getr (dd DX6_speak 48 rfl) rfl fX6_9 se_4 (by decide) rfl ?_
  refine sk_S.aload_n (i := 0) (dd DX6_speak 49 rfl) rfl rfl ?_
  refine sk_S.geti (dd DX6_speak 50 rfl) rfl fX6_29 se_4 (by decide) rfl ?_
  refine sk_S.iload (i := 6) (dd DX6_speak 51 rfl) rfl ?_
  refine sk_S.iast (dd DX6_speak 52 rfl) se_17 (sk_ix_nI (k := n) hV.2.2.2.2 (by omega) (by decide)) ?_
  refine sk_S.aload_n (i := 0) (dd DX6_speak 53 rfl) rfl rfl ?_
  refine sk_S.dup (dd DX6_speak 54 rfl) rfl ?_
  refine sk_S.geti (dd DX6_speak 55 rfl) rfl fX6_29 se_4 (by decide) rfl ?_
  refine sk_S.iconst (v := 1) (dd DX6_speak 56 rfl) (by decide) ?_
  refine sk_S.iadd (dd DX6_speak 57 rfl) ?_
  refine sk_S.putf (dd DX6_speak 58 rfl) rfl pX6_29 se_4 (by decide) rfl rfl rfl ?_
  have xp := pshC (b := 11) hV.2.2.2.2 hV.2.2.2.1
  have hV2 := hV.up xp
  refine sk_S.aload_n (i := 0) (dd DX6_speak 59 rfl) rfl rfl ?_
  refine sk_S.iload (i := 6) (dd DX6_speak 60 rfl) rfl ?_
  refine sk_S.gets (dd DX6_speak 61 rfl) rfl gsX6_43 ?_
  refine sk_S.iload (i := 5) (dd DX6_speak 62 rfl) rfl ?_
  refine sk_S.roald (dd DX6_speak 63 rfl) rfl (j := 0) ⟨by decide, by decide, by decide⟩ rfl ?_
  refine sk_S.iload_n (i := 3) (dd DX6_speak 64 rfl) rfl rfl ?_
  refine sk_S.iload (i := 4) (dd DX6_speak 65 rfl) rfl ?_
  refine sk_S.iconst (v := 1) (dd DX6_speak 66 rfl) (by decide) ?_
  refine sk_S.iadd (dd DX6_speak 67 rfl) ?_
  refine sk_S.V (nI (dep + 1)) (nI_1 dep) ?_
  refine sk_S.callV (dd DX6_speak 68 rfl) rfl kX6_46 (cV_sy_5_0_1 (by simp only [List.length_cons, List.length_nil]; omega) (by omega) hV2) se_4 (by decide) rfl rfl rfl rfl (Nat.le_of_ble_eq_true rfl) (fun r124 h124 q124 => ?_)
  obtain ⟨x124, rfl⟩ := q124
  show sk_S _ _ _ _ _ _ (.int _ :: _) _ _
  refine sk_S.iret (dd DX6_speak 69 rfl) rfl rfl ?_
  exact ⟨xp.tr x124, rfl⟩
set_option maxRecDepth 100000 in
set_option maxHeartbeats 1000000 in
theorem cV_sy_5_2_1 {l : Launch} {E : sk_V} {d : Nat} {h : sk_M} {m x : Int32} {t n dep : Nat} (hn : n + 2 ≤ 30) (hd : dep + 2 ≤ 30) (hV : voI h 5 m t n) : sk_K l E (d + 7) MX6_say [.ref 4, .int 30, .int 0, .int x, .int (nI dep)] h (fun r h1 => tcQ h h1 n [11, 10] 0 ∧ some (.int (0 - ((x + nI t) * 2))) = r) := by
  refine sk_K.of (by decide +kernel) (Nat.le_of_ble_eq_true rfl) ?_
  show sk_S l E (d + 7) _ 0 [some (.ref 4), some (.int 30), some (.int 0), some (.int x), some (.int (nI dep))] [] h _
  refine sk_S.iload_n (i := 1) (dd DX6_say_p1 0 rfl) rfl rfl ?_
  · refine sk_S.lookup (off := 188) (dd DX6_say_p1 1 rfl) (by decide) (by decide) (tgt := 189) (by decide) ?_
    refine sk_S.iconst (v := 0) (dd DX6_say_p1 56 rfl) (by decide) ?_
    refine sk_S.aload_n (i := 0) (dd DX6_say_p1 57 rfl) rfl rfl ?_
    refine sk_S.iload_n (i := 2) (dd DX6_say_p1 58 rfl) rfl rfl ?_
    refine sk_S.iconst (v := 1) (dd DX6_say_p1 59 rfl) (by decide) ?_
    refine sk_S.iload_n (i := 3) (dd DX6_say_p1 60 rfl) rfl rfl ?_
    refine sk_S.iload (i := 4) (dd DX6_say_p1 61 rfl) rfl ?_
    refine sk_S.callV (dd DX6_say_p1 62 rfl) rfl kX6_36 (cV_sp_5_0_1 (x := x) (by omega) (by omega) hV) se_4 (by decide) rfl rfl rfl rfl (Nat.le_of_ble_eq_true rfl) (fun r196 h196 q196 => ?_)
    obtain ⟨x196, rfl⟩ := q196
    show sk_S _ _ _ _ _ _ (.int _ :: _) _ _
    refine sk_S.isub (dd DX6_say_p1 63 rfl) ?_
    refine sk_S.iret (dd DX6_say_p1 64 rfl) rfl rfl ?_
    exact ⟨x196, rfl⟩
set_option maxRecDepth 100000 in
set_option maxHeartbeats 1000000 in
theorem cV_sp_5_2_1 {l : Launch} {E : sk_V} {d : Nat} {h : sk_M} {m x : Int32} {t n dep : Nat} (hn : n + 3 ≤ 30) (hd : dep + 3 ≤ 30) (hV : voI h 5 m t n) : sk_K l E (d + 8) MX6_speak [.ref 4, .int 2, .int 1, .int x, .int (nI dep)] h (fun r h1 => tcQ h h1 n [30, 11, 10] 0 ∧ some (.int (0 - ((x + nI t) * 2))) = r) := by
  refine sk_K.of (by decide +kernel) (Nat.le_of_ble_eq_true rfl) ?_
  show sk_S l E (d + 8) _ 0 [some (.ref 4), some (.int 2), some (.int 1), some (.int x), some (.int (nI dep)), none, none] [] h _
  refine sk_S.aload_n (i := 0) (dd DX6_speak 0 rfl) rfl rfl ?_
  refine sk_S.geti (dd DX6_speak 1 rfl) rfl fX6_32 se_4 (by decide) rfl ?_
  refine sk_S.if_eq (tgt := 9) (dd DX6_speak 2 rfl) (by decide) (fun c4 => ?_) (fun c4 => absurd hV.2.2.2.1 c4)
  refine sk_S.iload_n (i := 1) (dd DX6_speak 5 rfl) rfl rfl ?_
  refine sk_S.istore (i := 5) (dd DX6_speak 6 rfl) (Nat.le_of_ble_eq_true rfl) rfl ?_
  refine sk_S.iconst (v := 0) (dd DX6_speak 7 rfl) (by decide) ?_
  refine sk_S.istore (i := 6) (dd DX6_speak 8 rfl) (Nat.le_of_ble_eq_true rfl) rfl ?_
  refine sk_S.iload (i := 6) (dd DX6_speak 9 rfl) rfl ?_
  refine sk_S.bipush (v := 7) (dd DX6_speak 10 rfl) (by decide) ?_
  refine sk_S.icmp_ge (tgt := 54) (dd DX6_speak 11 rfl) (by decide) (fun c19 => absurd c19 (by decide)) (fun c19 => ?_)
  refine sk_S.iload (i := 5) (dd DX6_speak 12 rfl) rfl ?_
  refine sk_S.if_le (tgt := 54) (dd DX6_speak 13 rfl) (by decide) (fun c24 => absurd c24 (by decide)) (fun c24 => ?_)
  refine sk_S.gets (dd DX6_speak 14 rfl) rfl gsX6_40 ?_
  refine sk_S.iload (i := 5) (dd DX6_speak 15 rfl) rfl ?_
  refine sk_S.iconst (v := 4) (dd DX6_speak 16 rfl) (by decide) ?_
  refine sk_S.imul (dd DX6_speak 17 rfl) ?_
  refine sk_S.iload_n (i := 2) (dd DX6_speak 18 rfl) rfl rfl ?_
  refine sk_S.iadd (dd DX6_speak 19 rfl) ?_
  refine sk_S.roald (dd DX6_speak 20 rfl) rfl (j := 9) ⟨by decide, by decide, by decide⟩ rfl ?_
  refine sk_S.if_ne (tgt := 54) (dd DX6_speak 21 rfl) (by decide) (fun c37 => ?_) (fun c37 => absurd c37 (by decide))
  refine sk_S.iload (i := 5) (dd DX6_speak 28 rfl) rfl ?_
  refine sk_S.if_lt (tgt := 66) (dd DX6_speak 29 rfl) (by decide) (fun c56 => absurd c56 (by decide)) (fun c56 => ?_)
  refine sk_S.iload (i := 4) (dd DX6_speak 30 rfl) rfl ?_
  refine sk_S.bipush (v := 30) (dd DX6_speak 31 rfl) (by decide) ?_
  refine sk_S.icmp_le (tgt := 68) (dd DX6_speak 32 rfl) (by decide) (fun c63 => ?_) (fun c63 => absurd (nI_le (b := 30) (by omega) (by decide)) c63)
  refine sk_S.gets (dd DX6_speak 35 rfl) rfl gsX6_40 ?_
  refine sk_S.iload (i := 5) (dd DX6_speak 36 rfl) rfl ?_
  refine sk_S.iconst (v := 4) (dd DX6_speak 37 rfl) (by decide) ?_
  refine sk_S.imul (dd DX6_speak 38 rfl) ?_
  refine sk_S.iload_n (i := 2) (dd DX6_speak 39 rfl) rfl rfl ?_
  refine sk_S.iadd (dd DX6_speak 40 rfl) ?_
  refine sk_S.roald (dd DX6_speak 41 rfl) rfl (j := 9) ⟨by decide, by decide, by decide⟩ rfl ?_
  refine sk_S.istore (i := 6) (dd DX6_speak 42 rfl) (Nat.le_of_ble_eq_true rfl) rfl ?_
  refine sk_S.aload_n (i := 0) (dd DX6_speak 43 rfl) rfl rfl ?_
  refine sk_S.geti (dd DX6_speak 44 rfl) rfl fX6_29 se_4 (by decide) rfl ?_
  refine sk_S.bipush (v := 30) (dd DX6_speak 45 rfl) (by decide) ?_
  refine sk_S.icmp_ge (tgt := 110) (dd DX6_speak 46 rfl) (by decide) (fun c86 => absurd c86 (by rw [hV.2.2.2.2]; exact nI_ge (b := 30) (by omega) (by decide))) (fun c86 => ?_)
  refine sk_S.aload_n (i := 0) (dd DX6_speak 47 rfl) rfl rfl ?_
  refine sk_S.getr (dd DX6_speak 48 rfl) rfl fX6_9 se_4 (by decide) rfl ?_
  refine sk_S.aload_n (i := 0) (dd DX6_speak 49 rfl) rfl rfl ?_
  refine sk_S.geti (dd DX6_speak 50 rfl) rfl fX6_29 se_4 (by decide) rfl ?_
  refine sk_S.iload (i := 6) (dd DX6_speak 51 rfl) rfl ?_
  refine sk_S.iast (dd DX6_speak 52 rfl) se_17 (sk_ix_nI (k := n) hV.2.2.2.2 (by omega) (by decide)) ?_
  refine sk_S.aload_n (i := 0) (dd DX6_speak 53 rfl) rfl rfl ?_
  refine sk_S.dup (dd DX6_speak 54 rfl) rfl ?_
  refine sk_S.geti (dd DX6_speak 55 rfl) rfl fX6_29 se_4 (by decide) rfl ?_
  refine sk_S.iconst (v := 1) (dd DX6_speak 56 rfl) (by decide) ?_
  refine sk_S.iadd (dd DX6_speak 57 rfl) ?_
  refine sk_S.putf (dd DX6_speak 58 rfl) rfl pX6_29 se_4 (by decide) rfl rfl rfl ?_
  have xp := pshC (b := 30) hV.2.2.2.2 hV.2.2.2.1
  have hV2 := hV.up xp
  refine sk_S.aload_n (i := 0) (dd DX6_speak 59 rfl) rfl rfl ?_
  refine sk_S.iload (i := 6) (dd DX6_speak 60 rfl) rfl ?_
  refine sk_S.gets (dd DX6_speak 61 rfl) rfl gsX6_43 ?_
  refine sk_S.iload (i := 5) (dd DX6_speak 62 rfl) rfl ?_
  refine sk_S.roald (dd DX6_speak 63 rfl) rfl (j := 2) ⟨by decide, by decide, by decide⟩ rfl ?_
  refine sk_S.iload_n (i := 3) (dd DX6_speak 64 rfl) rfl rfl ?_
  refine sk_S.iload (i := 4) (dd DX6_speak 65 rfl) rfl ?_
  refine sk_S.iconst (v := 1) (dd DX6_speak 66 rfl) (by decide) ?_
  refine sk_S.iadd (dd DX6_speak 67 rfl) ?_
  refine sk_S.V (nI (dep + 1)) (nI_1 dep) ?_
  refine sk_S.callV (dd DX6_speak 68 rfl) rfl kX6_46 (cV_sy_5_2_1 (by simp only [List.length_cons, List.length_nil]; omega) (by omega) hV2) se_4 (by decide) rfl rfl rfl rfl (Nat.le_of_ble_eq_true rfl) (fun r124 h124 q124 => ?_)
  obtain ⟨x124, rfl⟩ := q124
  show sk_S _ _ _ _ _ _ (.int _ :: _) _ _
  refine sk_S.iret (dd DX6_speak 69 rfl) rfl rfl ?_
  exact ⟨xp.tr x124, rfl⟩
set_option maxRecDepth 100000 in
set_option maxHeartbeats 1000000 in
theorem cV_sy_5_5_1 {l : Launch} {E : sk_V} {d : Nat} {h : sk_M} {m x : Int32} {t n dep : Nat} (hn : n + 3 ≤ 30) (hd : dep + 3 ≤ 30) (hV : voI h 5 m t n) : sk_K l E (d + 10) MX6_say [.ref 4, .int 60, .int 2, .int x, .int (nI dep)] h (fun r h1 => tcQ h h1 n [30, 11, 10] 0 ∧ some (.int (0 - (((x + 1) + nI t) * 2))) = r) := by
  refine sk_K.of (by decide +kernel) (Nat.le_of_ble_eq_true rfl) ?_
  show sk_S l E (d + 10) _ 0 [some (.ref 4), some (.int 60), some (.int 2), some (.int x), some (.int (nI dep))] [] h _
  refine sk_S.iload_n (i := 1) (dd DX6_say_p1 0 rfl) rfl rfl ?_
  · refine sk_S.lookup (off := 239) (dd DX6_say_p1 1 rfl) (by decide) (by decide) (tgt := 240) (by decide) ?_
    refine sk_S.aload_n (i := 0) (dd DX6_say_p1 93 rfl) rfl rfl ?_
    refine sk_S.iload_n (i := 2) (dd DX6_say_p1 94 rfl) rfl rfl ?_
    refine sk_S.iconst (v := 1) (dd DX6_say_p1 95 rfl) (by decide) ?_
    refine sk_S.iload_n (i := 3) (dd DX6_say_p1 96 rfl) rfl rfl ?_
    refine sk_S.iconst (v := 1) (dd DX6_say_p1 97 rfl) (by decide) ?_
    refine sk_S.iadd (dd DX6_say_p1 98 rfl) ?_
    refine sk_S.iload (i := 4) (dd DX6_say_p1 99 rfl) rfl ?_
    refine sk_S.callV (dd DX6_say_p2 0 rfl) rfl kX6_36 (cV_sp_5_2_1 (x := (x + 1)) (by omega) (by omega) hV) se_4 (by decide) rfl rfl rfl rfl (Nat.le_of_ble_eq_true rfl) (fun r248 h248 q248 => ?_)
    obtain ⟨x248, rfl⟩ := q248
    show sk_S _ _ _ _ _ _ (.int _ :: _) _ _
    refine sk_S.iret (dd DX6_say_p2 1 rfl) rfl rfl ?_
    exact ⟨x248, rfl⟩
set_option maxRecDepth 100000 in
set_option maxHeartbeats 1000000 in
theorem cV_sp_5_5_1 {l : Launch} {E : sk_V} {d : Nat} {h : sk_M} {m x : Int32} {t n dep : Nat} (hn : n + 4 ≤ 30) (hd : dep + 4 ≤ 30) (hV : voI h 5 m t n) : sk_K l E (d + 11) MX6_speak [.ref 4, .int 5, .int 1, .int x, .int (nI dep)] h (fun r h1 => tcQ h h1 n [60, 30, 11, 10] 0 ∧ some (.int (0 - (((x + 1) + nI t) * 2))) = r) := by
  refine sk_K.of (by decide +kernel) (Nat.le_of_ble_eq_true rfl) ?_
  show sk_S l E (d + 11) _ 0 [some (.ref 4), some (.int 5), some (.int 1), some (.int x), some (.int (nI dep)), none, none] [] h _
  refine sk_S.aload_n (i := 0) (dd DX6_speak 0 rfl) rfl rfl ?_
  refine sk_S.geti (dd DX6_speak 1 rfl) rfl fX6_32 se_4 (by decide) rfl ?_
  refine sk_S.if_eq (tgt := 9) (dd DX6_speak 2 rfl) (by decide) (fun c4 => ?_) (fun c4 => absurd hV.2.2.2.1 c4)
  refine sk_S.iload_n (i := 1) (dd DX6_speak 5 rfl) rfl rfl ?_
  refine sk_S.istore (i := 5) (dd DX6_speak 6 rfl) (Nat.le_of_ble_eq_true rfl) rfl ?_
  refine sk_S.iconst (v := 0) (dd DX6_speak 7 rfl) (by decide) ?_
  refine sk_S.istore (i := 6) (dd DX6_speak 8 rfl) (Nat.le_of_ble_eq_true rfl) rfl ?_
  refine sk_S.iload (i := 6) (dd DX6_speak 9 rfl) rfl ?_
  refine sk_S.bipush (v := 7) (dd DX6_speak 10 rfl) (by decide) ?_
  refine sk_S.icmp_ge (tgt := 54) (dd DX6_speak 11 rfl) (by decide) (fun c19 => absurd c19 (by decide)) (fun c19 => ?_)
  refine sk_S.iload (i := 5) (dd DX6_speak 12 rfl) rfl ?_
  refine sk_S.if_le (tgt := 54) (dd DX6_speak 13 rfl) (by decide) (fun c24 => absurd c24 (by decide)) (fun c24 => ?_)
  refine sk_S.gets (dd DX6_speak 14 rfl) rfl gsX6_40 ?_
  refine sk_S.iload (i := 5) (dd DX6_speak 15 rfl) rfl ?_
  refine sk_S.iconst (v := 4) (dd DX6_speak 16 rfl) (by decide) ?_
  refine sk_S.imul (dd DX6_speak 17 rfl) ?_
  refine sk_S.iload_n (i := 2) (dd DX6_speak 18 rfl) rfl rfl ?_
  refine sk_S.iadd (dd DX6_speak 19 rfl) ?_
  refine sk_S.roald (dd DX6_speak 20 rfl) rfl (j := 21) ⟨by decide, by decide, by decide⟩ rfl ?_
  refine sk_S.if_ne (tgt := 54) (dd DX6_speak 21 rfl) (by decide) (fun c37 => ?_) (fun c37 => absurd c37 (by decide))
  refine sk_S.iload (i := 5) (dd DX6_speak 28 rfl) rfl ?_
  refine sk_S.if_lt (tgt := 66) (dd DX6_speak 29 rfl) (by decide) (fun c56 => absurd c56 (by decide)) (fun c56 => ?_)
  refine sk_S.iload (i := 4) (dd DX6_speak 30 rfl) rfl ?_
  refine sk_S.bipush (v := 30) (dd DX6_speak 31 rfl) (by decide) ?_
  refine sk_S.icmp_le (tgt := 68) (dd DX6_speak 32 rfl) (by decide) (fun c63 => ?_) (fun c63 => absurd (nI_le (b := 30) (by omega) (by decide)) c63)
  refine sk_S.gets (dd DX6_speak 35 rfl) rfl gsX6_40 ?_
  refine sk_S.iload (i := 5) (dd DX6_speak 36 rfl) rfl ?_
  refine sk_S.iconst (v := 4) (dd DX6_speak 37 rfl) (by decide) ?_
  refine sk_S.imul (dd DX6_speak 38 rfl) ?_
  refine sk_S.iload_n (i := 2) (dd DX6_speak 39 rfl) rfl rfl ?_
  refine sk_S.iadd (dd DX6_speak 40 rfl) ?_
  refine sk_S.roald (dd DX6_speak 41 rfl) rfl (j := 21) ⟨by decide, by decide, by decide⟩ rfl ?_
  refine sk_S.istore (i := 6) (dd DX6_speak 42 rfl) (Nat.le_of_ble_eq_true rfl) rfl ?_
  refine sk_S.aload_n (i := 0) (dd DX6_speak 43 rfl) rfl rfl ?_
  refine sk_S.geti (dd DX6_speak 44 rfl) rfl fX6_29 se_4 (by decide) rfl ?_
  refine sk_S.bipush (v := 30) (dd DX6_speak 45 rfl) (by decide) ?_
  refine sk_S.icmp_ge (tgt := 110) (dd DX6_speak 46 rfl) (by decide) (fun c86 => absurd c86 (by rw [hV.2.2.2.2]; exact nI_ge (b := 30) (by omega) (by decide))) (fun c86 => ?_)
  refine sk_S.aload_n (i := 0) (dd DX6_speak 47 rfl) rfl rfl ?_
  refine sk_S.getr (dd DX6_speak 48 rfl) rfl fX6_9 se_4 (by decide) rfl ?_
  refine sk_S.aload_n (i := 0) (dd DX6_speak 49 rfl) rfl rfl ?_
  refine sk_S.geti (dd DX6_speak 50 rfl) rfl fX6_29 se_4 (by decide) rfl ?_
  refine sk_S.iload (i := 6) (dd DX6_speak 51 rfl) rfl ?_
  refine sk_S.iast (dd DX6_speak 52 rfl) se_17 (sk_ix_nI (k := n) hV.2.2.2.2 (by omega) (by decide)) ?_
  refine sk_S.aload_n (i := 0) (dd DX6_speak 53 rfl) rfl rfl ?_
  refine sk_S.dup (dd DX6_speak 54 rfl) rfl ?_
  refine sk_S.geti (dd DX6_speak 55 rfl) rfl fX6_29 se_4 (by decide) rfl ?_
  refine sk_S.iconst (v := 1) (dd DX6_speak 56 rfl) (by decide) ?_
  refine sk_S.iadd (dd DX6_speak 57 rfl) ?_
  refine sk_S.putf (dd DX6_speak 58 rfl) rfl pX6_29 se_4 (by decide) rfl rfl rfl ?_
  have xp := pshC (b := 60) hV.2.2.2.2 hV.2.2.2.1
  have hV2 := hV.up xp
  refine sk_S.aload_n (i := 0) (dd DX6_speak 59 rfl) rfl rfl ?_
  refine sk_S.iload (i := 6) (dd DX6_speak 60 rfl) rfl ?_
  refine sk_S.gets (dd DX6_speak 61 rfl) rfl gsX6_43 ?_
  refine sk_S.iload (i := 5) (dd DX6_speak 62 rfl) rfl ?_
  refine sk_S.roald (dd DX6_speak 63 rfl) rfl (j := 5) ⟨by decide, by decide, by decide⟩ rfl ?_
  refine sk_S.iload_n (i := 3) (dd DX6_speak 64 rfl) rfl rfl ?_
  refine sk_S.iload (i := 4) (dd DX6_speak 65 rfl) rfl ?_
  refine sk_S.iconst (v := 1) (dd DX6_speak 66 rfl) (by decide) ?_
  refine sk_S.iadd (dd DX6_speak 67 rfl) ?_
  refine sk_S.V (nI (dep + 1)) (nI_1 dep) ?_
  refine sk_S.callV (dd DX6_speak 68 rfl) rfl kX6_46 (cV_sy_5_5_1 (by simp only [List.length_cons, List.length_nil]; omega) (by omega) hV2) se_4 (by decide) rfl rfl rfl rfl (Nat.le_of_ble_eq_true rfl) (fun r124 h124 q124 => ?_)
  obtain ⟨x124, rfl⟩ := q124
  show sk_S _ _ _ _ _ _ (.int _ :: _) _ _
  refine sk_S.iret (dd DX6_speak 69 rfl) rfl rfl ?_
  exact ⟨xp.tr x124, rfl⟩
set_option maxRecDepth 100000 in
set_option maxHeartbeats 1000000 in
theorem cV_sy_5_5_2 {l : Launch} {E : sk_V} {d : Nat} {h : sk_M} {m x : Int32} {t n dep : Nat} (hn : n + 4 ≤ 30) (hd : dep + 4 ≤ 30) (hV : voI h 5 m t n) : sk_K l E (d + 13) MX6_say [.ref 4, .int 12, .int (-1), .int x, .int (nI dep)] h (fun r h1 => tcQ h h1 n [60, 30, 11, 10] 0 ∧ some (.int ((0 - (((x + 1) + nI t) * 2)) - m)) = r) := by
  refine sk_K.of (by decide +kernel) (Nat.le_of_ble_eq_true rfl) ?_
  show sk_S l E (d + 13) _ 0 [some (.ref 4), some (.int 12), some (.int (-1)), some (.int x), some (.int (nI dep))] [] h _
  refine sk_S.iload_n (i := 1) (dd DX6_say_p1 0 rfl) rfl rfl ?_
  · refine sk_S.lookup (off := 129) (dd DX6_say_p1 1 rfl) (by decide) (by decide) (tgt := 130) (by decide) ?_
    refine sk_S.aload_n (i := 0) (dd DX6_say_p1 17 rfl) rfl rfl ?_
    refine sk_S.aload_n (i := 0) (dd DX6_say_p1 18 rfl) rfl rfl ?_
    refine sk_S.geti (dd DX6_say_p1 19 rfl) rfl fX6_21 se_4 (by decide) rfl ?_
    refine sk_S.V 5 hV.1 ?_
    refine sk_S.iconst (v := 1) (dd DX6_say_p1 20 rfl) (by decide) ?_
    refine sk_S.iload_n (i := 3) (dd DX6_say_p1 21 rfl) rfl rfl ?_
    refine sk_S.iload (i := 4) (dd DX6_say_p1 22 rfl) rfl ?_
    refine sk_S.callV (dd DX6_say_p1 23 rfl) rfl kX6_36 (cV_sp_5_5_1 (x := x) (by omega) (by omega) hV) se_4 (by decide) rfl rfl rfl rfl (Nat.le_of_ble_eq_true rfl) (fun r139 h139 q139 => ?_)
    obtain ⟨x139, rfl⟩ := q139
    show sk_S _ _ _ _ _ _ (.int _ :: _) _ _
    refine sk_S.aload_n (i := 0) (dd DX6_say_p1 24 rfl) rfl rfl ?_
    refine sk_S.geti (dd DX6_say_p1 25 rfl) rfl fX6_25 se_4 (by decide) rfl ?_
    refine sk_S.V m ((x139.2.2.2.1 5 (by decide) (by decide)).trans hV.2.2.1) ?_
    refine sk_S.isub (dd DX6_say_p1 26 rfl) ?_
    refine sk_S.iret (dd DX6_say_p1 27 rfl) rfl rfl ?_
    exact ⟨x139, rfl⟩
set_option maxRecDepth 100000 in
set_option maxHeartbeats 1000000 in
theorem cV_sp_5_5_2 {l : Launch} {E : sk_V} {d : Nat} {h : sk_M} {m x : Int32} {t n dep : Nat} (hn : n + 5 ≤ 30) (hd : dep + 5 ≤ 30) (hV : voI h 5 m t n) : sk_K l E (d + 14) MX6_speak [.ref 4, .int 5, .int 2, .int x, .int (nI dep)] h (fun r h1 => tcQ h h1 n [12, 60, 30, 11, 10] 0 ∧ some (.int ((0 - (((x + 1) + nI t) * 2)) - m)) = r) := by
  refine sk_K.of (by decide +kernel) (Nat.le_of_ble_eq_true rfl) ?_
  show sk_S l E (d + 14) _ 0 [some (.ref 4), some (.int 5), some (.int 2), some (.int x), some (.int (nI dep)), none, none] [] h _
  refine sk_S.aload_n (i := 0) (dd DX6_speak 0 rfl) rfl rfl ?_
  refine sk_S.geti (dd DX6_speak 1 rfl) rfl fX6_32 se_4 (by decide) rfl ?_
  refine sk_S.if_eq (tgt := 9) (dd DX6_speak 2 rfl) (by decide) (fun c4 => ?_) (fun c4 => absurd hV.2.2.2.1 c4)
  refine sk_S.iload_n (i := 1) (dd DX6_speak 5 rfl) rfl rfl ?_
  refine sk_S.istore (i := 5) (dd DX6_speak 6 rfl) (Nat.le_of_ble_eq_true rfl) rfl ?_
  refine sk_S.iconst (v := 0) (dd DX6_speak 7 rfl) (by decide) ?_
  refine sk_S.istore (i := 6) (dd DX6_speak 8 rfl) (Nat.le_of_ble_eq_true rfl) rfl ?_
  refine sk_S.iload (i := 6) (dd DX6_speak 9 rfl) rfl ?_
  refine sk_S.bipush (v := 7) (dd DX6_speak 10 rfl) (by decide) ?_
  refine sk_S.icmp_ge (tgt := 54) (dd DX6_speak 11 rfl) (by decide) (fun c19 => absurd c19 (by decide)) (fun c19 => ?_)
  refine sk_S.iload (i := 5) (dd DX6_speak 12 rfl) rfl ?_
  refine sk_S.if_le (tgt := 54) (dd DX6_speak 13 rfl) (by decide) (fun c24 => absurd c24 (by decide)) (fun c24 => ?_)
  refine sk_S.gets (dd DX6_speak 14 rfl) rfl gsX6_40 ?_
  refine sk_S.iload (i := 5) (dd DX6_speak 15 rfl) rfl ?_
  refine sk_S.iconst (v := 4) (dd DX6_speak 16 rfl) (by decide) ?_
  refine sk_S.imul (dd DX6_speak 17 rfl) ?_
  refine sk_S.iload_n (i := 2) (dd DX6_speak 18 rfl) rfl rfl ?_
  refine sk_S.iadd (dd DX6_speak 19 rfl) ?_
  refine sk_S.roald (dd DX6_speak 20 rfl) rfl (j := 22) ⟨by decide, by decide, by decide⟩ rfl ?_
  refine sk_S.if_ne (tgt := 54) (dd DX6_speak 21 rfl) (by decide) (fun c37 => absurd (by decide) c37) (fun c37 => ?_)
  refine sk_S.gets (dd DX6_speak 22 rfl) rfl gsX6_43 ?_
  refine sk_S.iload (i := 5) (dd DX6_speak 23 rfl) rfl ?_
  refine sk_S.roald (dd DX6_speak 24 rfl) rfl (j := 5) ⟨by decide, by decide, by decide⟩ rfl ?_
  refine sk_S.istore (i := 5) (dd DX6_speak 25 rfl) (Nat.le_of_ble_eq_true rfl) rfl ?_
  refine sk_S.iinc (i := 6) (v := _ + 1) (dd DX6_speak 26 rfl) rfl rfl rfl ?_
  refine sk_S.goto (tgt := 15) (dd DX6_speak 27 rfl) (by decide) ?_
  refine sk_S.iload (i := 6) (dd DX6_speak 9 rfl) rfl ?_
  refine sk_S.bipush (v := 7) (dd DX6_speak 10 rfl) (by decide) ?_
  refine sk_S.icmp_ge (tgt := 54) (dd DX6_speak 11 rfl) (by decide) (fun c19 => absurd c19 (by decide)) (fun c19 => ?_)
  refine sk_S.iload (i := 5) (dd DX6_speak 12 rfl) rfl ?_
  refine sk_S.if_le (tgt := 54) (dd DX6_speak 13 rfl) (by decide) (fun c24 => absurd c24 (by decide)) (fun c24 => ?_)
  refine sk_S.gets (dd DX6_speak 14 rfl) rfl gsX6_40 ?_
  refine sk_S.iload (i := 5) (dd DX6_speak 15 rfl) rfl ?_
  refine sk_S.iconst (v := 4) (dd DX6_speak 16 rfl) (by decide) ?_
  refine sk_S.imul (dd DX6_speak 17 rfl) ?_
  refine sk_S.iload_n (i := 2) (dd DX6_speak 18 rfl) rfl rfl ?_
  refine sk_S.iadd (dd DX6_speak 19 rfl) ?_
  refine sk_S.roald (dd DX6_speak 20 rfl) rfl (j := 10) ⟨by decide, by decide, by decide⟩ rfl ?_
  refine sk_S.if_ne (tgt := 54) (dd DX6_speak 21 rfl) (by decide) (fun c37 => absurd (by decide) c37) (fun c37 => ?_)
  refine sk_S.gets (dd DX6_speak 22 rfl) rfl gsX6_43 ?_
  refine sk_S.iload (i := 5) (dd DX6_speak 23 rfl) rfl ?_
  refine sk_S.roald (dd DX6_speak 24 rfl) rfl (j := 2) ⟨by decide, by decide, by decide⟩ rfl ?_
  refine sk_S.istore (i := 5) (dd DX6_speak 25 rfl) (Nat.le_of_ble_eq_true rfl) rfl ?_
  refine sk_S.iinc (i := 6) (v := _ + 1) (dd DX6_speak 26 rfl) rfl rfl rfl ?_
  refine sk_S.goto (tgt := 15) (dd DX6_speak 27 rfl) (by decide) ?_
  refine sk_S.iload (i := 6) (dd DX6_speak 9 rfl) rfl ?_
  refine sk_S.bipush (v := 7) (dd DX6_speak 10 rfl) (by decide) ?_
  refine sk_S.icmp_ge (tgt := 54) (dd DX6_speak 11 rfl) (by decide) (fun c19 => absurd c19 (by decide)) (fun c19 => ?_)
  refine sk_S.iload (i := 5) (dd DX6_speak 12 rfl) rfl ?_
  refine sk_S.if_le (tgt := 54) (dd DX6_speak 13 rfl) (by decide) (fun c24 => ?_) (fun c24 => absurd (by decide) c24)
  refine sk_S.iload (i := 5) (dd DX6_speak 28 rfl) rfl ?_
  refine sk_S.if_lt (tgt := 66) (dd DX6_speak 29 rfl) (by decide) (fun c56 => absurd c56 (by decide)) (fun c56 => ?_)
  refine sk_S.iload (i := 4) (dd DX6_speak 30 rfl) rfl ?_
  refine sk_S.bipush (v := 30) (dd DX6_speak 31 rfl) (by decide) ?_
  refine sk_S.icmp_le (tgt := 68) (dd DX6_speak 32 rfl) (by decide) (fun c63 => ?_) (fun c63 => absurd (nI_le (b := 30) (by omega) (by decide)) c63)
  refine sk_S.gets (dd DX6_speak 35 rfl) rfl gsX6_40 ?_
  refine sk_S.iload (i := 5) (dd DX6_speak 36 rfl) rfl ?_
  refine sk_S.iconst (v := 4) (dd DX6_speak 37 rfl) (by decide) ?_
  refine sk_S.imul (dd DX6_speak 38 rfl) ?_
  refine sk_S.iload_n (i := 2) (dd DX6_speak 39 rfl) rfl rfl ?_
  refine sk_S.iadd (dd DX6_speak 40 rfl) ?_
  refine sk_S.roald (dd DX6_speak 41 rfl) rfl (j := 2) ⟨by decide, by decide, by decide⟩ rfl ?_
  refine sk_S.istore (i := 6) (dd DX6_speak 42 rfl) (Nat.le_of_ble_eq_true rfl) rfl ?_
  refine sk_S.aload_n (i := 0) (dd DX6_speak 43 rfl) rfl rfl ?_
  refine sk_S.geti (dd DX6_speak 44 rfl) rfl fX6_29 se_4 (by decide) rfl ?_
  refine sk_S.bipush (v := 30) (dd DX6_speak 45 rfl) (by decide) ?_
  refine sk_S.icmp_ge (tgt := 110) (dd DX6_speak 46 rfl) (by decide) (fun c86 => absurd c86 (by rw [hV.2.2.2.2]; exact nI_ge (b := 30) (by omega) (by decide))) (fun c86 => ?_)
  refine sk_S.aload_n (i := 0) (dd DX6_speak 47 rfl) rfl rfl ?_
  refine sk_S.getr (dd DX6_speak 48 rfl) rfl fX6_9 se_4 (by decide) rfl ?_
  refine sk_S.aload_n (i := 0) (dd DX6_speak 49 rfl) rfl rfl ?_
  refine sk_S.geti (dd DX6_speak 50 rfl) rfl fX6_29 se_4 (by decide) rfl ?_
  refine sk_S.iload (i := 6) (dd DX6_speak 51 rfl) rfl ?_
  refine sk_S.iast (dd DX6_speak 52 rfl) se_17 (sk_ix_nI (k := n) hV.2.2.2.2 (by omega) (by decide)) ?_
  refine sk_S.aload_n (i := 0) (dd DX6_speak 53 rfl) rfl rfl ?_
  refine sk_S.dup (dd DX6_speak 54 rfl) rfl ?_
  refine sk_S.geti (dd DX6_speak 55 rfl) rfl fX6_29 se_4 (by decide) rfl ?_
  refine sk_S.iconst (v := 1) (dd DX6_speak 56 rfl) (by decide) ?_
  refine sk_S.iadd (dd DX6_speak 57 rfl) ?_
  refine sk_S.putf (dd DX6_speak 58 rfl) rfl pX6_29 se_4 (by decide) rfl rfl rfl ?_
  have xp := pshC (b := 12) hV.2.2.2.2 hV.2.2.2.1
  have hV2 := hV.up xp
  refine sk_S.aload_n (i := 0) (dd DX6_speak 59 rfl) rfl rfl ?_
  refine sk_S.iload (i := 6) (dd DX6_speak 60 rfl) rfl ?_
  refine sk_S.gets (dd DX6_speak 61 rfl) rfl gsX6_43 ?_
  refine sk_S.iload (i := 5) (dd DX6_speak 62 rfl) rfl ?_
  refine sk_S.roald (dd DX6_speak 63 rfl) rfl (j := 0) ⟨by decide, by decide, by decide⟩ rfl ?_
  refine sk_S.iload_n (i := 3) (dd DX6_speak 64 rfl) rfl rfl ?_
  refine sk_S.iload (i := 4) (dd DX6_speak 65 rfl) rfl ?_
  refine sk_S.iconst (v := 1) (dd DX6_speak 66 rfl) (by decide) ?_
  refine sk_S.iadd (dd DX6_speak 67 rfl) ?_
  refine sk_S.V (nI (dep + 1)) (nI_1 dep) ?_
  refine sk_S.callV (dd DX6_speak 68 rfl) rfl kX6_46 (cV_sy_5_5_2 (by simp only [List.length_cons, List.length_nil]; omega) (by omega) hV2) se_4 (by decide) rfl rfl rfl rfl (Nat.le_of_ble_eq_true rfl) (fun r124 h124 q124 => ?_)
  obtain ⟨x124, rfl⟩ := q124
  show sk_S _ _ _ _ _ _ (.int _ :: _) _ _
  refine sk_S.iret (dd DX6_speak 69 rfl) rfl rfl ?_
  exact ⟨xp.tr x124, rfl⟩
set_option maxRecDepth 100000 in
set_option maxHeartbeats 1000000 in
theorem cV_sy_5_5_3 {l : Launch} {E : sk_V} {d : Nat} {h : sk_M} {m x : Int32} {t n dep : Nat} (hn : n + 0 ≤ 30) (hd : dep + 0 ≤ 30) (hV : voI h 5 m t n) (hp : ¬ m - nI t = 0) : sk_K l E (d + 2) MX6_say [.ref 4, .int 13, .int (-1), .int x, .int (nI dep)] h (fun r h1 => tcQ h h1 n [] 0 ∧ some (.int (x / (m - nI t))) = r) := by
  refine sk_K.of (by decide +kernel) (Nat.le_of_ble_eq_true rfl) ?_
  show sk_S l E (d + 2) _ 0 [some (.ref 4), some (.int 13), some (.int (-1)), some (.int x), some (.int (nI dep))] [] h _
  refine sk_S.iload_n (i := 1) (dd DX6_say_p1 0 rfl) rfl rfl ?_
  · refine sk_S.lookup (off := 147) (dd DX6_say_p1 1 rfl) (by decide) (by decide) (tgt := 148) (by decide) ?_
    refine sk_S.aload_n (i := 0) (dd DX6_say_p1 28 rfl) rfl rfl ?_
    refine sk_S.iload_n (i := 3) (dd DX6_say_p1 29 rfl) rfl rfl ?_
    refine sk_S.callV (dd DX6_say_p1 30 rfl) rfl kX6_49 (cV_part hV hp) se_4 (by decide) rfl rfl rfl rfl (Nat.le_of_ble_eq_true rfl) (fun r150 h150 q150 => ?_)
    obtain ⟨x150, rfl⟩ := q150
    show sk_S _ _ _ _ _ _ (.int _ :: _) _ _
    refine sk_S.iret (dd DX6_say_p1 31 rfl) rfl rfl ?_
    exact ⟨x150, rfl⟩
set_option maxRecDepth 100000 in
set_option maxHeartbeats 1000000 in
theorem cV_sp_5_5_3 {l : Launch} {E : sk_V} {d : Nat} {h : sk_M} {m x : Int32} {t n dep : Nat} (hn : n + 1 ≤ 30) (hd : dep + 1 ≤ 30) (hV : voI h 5 m t n) (hp : ¬ m - nI t = 0) : sk_K l E (d + 3) MX6_speak [.ref 4, .int 5, .int 3, .int x, .int (nI dep)] h (fun r h1 => tcQ h h1 n [13] 0 ∧ some (.int (x / (m - nI t))) = r) := by
  refine sk_K.of (by decide +kernel) (Nat.le_of_ble_eq_true rfl) ?_
  show sk_S l E (d + 3) _ 0 [some (.ref 4), some (.int 5), some (.int 3), some (.int x), some (.int (nI dep)), none, none] [] h _
  refine sk_S.aload_n (i := 0) (dd DX6_speak 0 rfl) rfl rfl ?_
  refine sk_S.geti (dd DX6_speak 1 rfl) rfl fX6_32 se_4 (by decide) rfl ?_
  refine sk_S.if_eq (tgt := 9) (dd DX6_speak 2 rfl) (by decide) (fun c4 => ?_) (fun c4 => absurd hV.2.2.2.1 c4)
  refine sk_S.iload_n (i := 1) (dd DX6_speak 5 rfl) rfl rfl ?_
  refine sk_S.istore (i := 5) (dd DX6_speak 6 rfl) (Nat.le_of_ble_eq_true rfl) rfl ?_
  refine sk_S.iconst (v := 0) (dd DX6_speak 7 rfl) (by decide) ?_
  refine sk_S.istore (i := 6) (dd DX6_speak 8 rfl) (Nat.le_of_ble_eq_true rfl) rfl ?_
  refine sk_S.iload (i := 6) (dd DX6_speak 9 rfl) rfl ?_
  refine sk_S.bipush (v := 7) (dd DX6_speak 10 rfl) (by decide) ?_
  refine sk_S.icmp_ge (tgt := 54) (dd DX6_speak 11 rfl) (by decide) (fun c19 => absurd c19 (by decide)) (fun c19 => ?_)
  refine sk_S.iload (i := 5) (dd DX6_speak 12 rfl) rfl ?_
  refine sk_S.if_le (tgt := 54) (dd DX6_speak 13 rfl) (by decide) (fun c24 => absurd c24 (by decide)) (fun c24 => ?_)
  refine sk_S.gets (dd DX6_speak 14 rfl) rfl gsX6_40 ?_
  refine sk_S.iload (i := 5) (dd DX6_speak 15 rfl) rfl ?_
  refine sk_S.iconst (v := 4) (dd DX6_speak 16 rfl) (by decide) ?_
  refine sk_S.imul (dd DX6_speak 17 rfl) ?_
  refine sk_S.iload_n (i := 2) (dd DX6_speak 18 rfl) rfl rfl ?_
  refine sk_S.iadd (dd DX6_speak 19 rfl) ?_
  refine sk_S.roald (dd DX6_speak 20 rfl) rfl (j := 23) ⟨by decide, by decide, by decide⟩ rfl ?_
  refine sk_S.if_ne (tgt := 54) (dd DX6_speak 21 rfl) (by decide) (fun c37 => absurd (by decide) c37) (fun c37 => ?_)
  refine sk_S.gets (dd DX6_speak 22 rfl) rfl gsX6_43 ?_
  refine sk_S.iload (i := 5) (dd DX6_speak 23 rfl) rfl ?_
  refine sk_S.roald (dd DX6_speak 24 rfl) rfl (j := 5) ⟨by decide, by decide, by decide⟩ rfl ?_
  refine sk_S.istore (i := 5) (dd DX6_speak 25 rfl) (Nat.le_of_ble_eq_true rfl) rfl ?_
  refine sk_S.iinc (i := 6) (v := _ + 1) (dd DX6_speak 26 rfl) rfl rfl rfl ?_
  refine sk_S.goto (tgt := 15) (dd DX6_speak 27 rfl) (by decide) ?_
  refine sk_S.iload (i := 6) (dd DX6_speak 9 rfl) rfl ?_
  refine sk_S.bipush (v := 7) (dd DX6_speak 10 rfl) (by decide) ?_
  refine sk_S.icmp_ge (tgt := 54) (dd DX6_speak 11 rfl) (by decide) (fun c19 => absurd c19 (by decide)) (fun c19 => ?_)
  refine sk_S.iload (i := 5) (dd DX6_speak 12 rfl) rfl ?_
  refine sk_S.if_le (tgt := 54) (dd DX6_speak 13 rfl) (by decide) (fun c24 => absurd c24 (by decide)) (fun c24 => ?_)
  refine sk_S.gets (dd DX6_speak 14 rfl) rfl gsX6_40 ?_
  refine sk_S.iload (i := 5) (dd DX6_speak 15 rfl) rfl ?_
  refine sk_S.iconst (v := 4) (dd DX6_speak 16 rfl) (by decide) ?_
  refine sk_S.imul (dd DX6_speak 17 rfl) ?_
  refine sk_S.iload_n (i := 2) (dd DX6_speak 18 rfl) rfl rfl ?_
  refine sk_S.iadd (dd DX6_speak 19 rfl) ?_
  refine sk_S.roald (dd DX6_speak 20 rfl) rfl (j := 11) ⟨by decide, by decide, by decide⟩ rfl ?_
  refine sk_S.if_ne (tgt := 54) (dd DX6_speak 21 rfl) (by decide) (fun c37 => absurd (by decide) c37) (fun c37 => ?_)
  refine sk_S.gets (dd DX6_speak 22 rfl) rfl gsX6_43 ?_
  refine sk_S.iload (i := 5) (dd DX6_speak 23 rfl) rfl ?_
  refine sk_S.roald (dd DX6_speak 24 rfl) rfl (j := 2) ⟨by decide, by decide, by decide⟩ rfl ?_
  refine sk_S.istore (i := 5) (dd DX6_speak 25 rfl) (Nat.le_of_ble_eq_true rfl) rfl ?_
  refine sk_S.iinc (i := 6) (v := _ + 1) (dd DX6_speak 26 rfl) rfl rfl rfl ?_
  refine sk_S.goto (tgt := 15) (dd DX6_speak 27 rfl) (by decide) ?_
  refine sk_S.iload (i := 6) (dd DX6_speak 9 rfl) rfl ?_
  refine sk_S.bipush (v := 7) (dd DX6_speak 10 rfl) (by decide) ?_
  refine sk_S.icmp_ge (tgt := 54) (dd DX6_speak 11 rfl) (by decide) (fun c19 => absurd c19 (by decide)) (fun c19 => ?_)
  refine sk_S.iload (i := 5) (dd DX6_speak 12 rfl) rfl ?_
  refine sk_S.if_le (tgt := 54) (dd DX6_speak 13 rfl) (by decide) (fun c24 => ?_) (fun c24 => absurd (by decide) c24)
  refine sk_S.iload (i := 5) (dd DX6_speak 28 rfl) rfl ?_
  refine sk_S.if_lt (tgt := 66) (dd DX6_speak 29 rfl) (by decide) (fun c56 => absurd c56 (by decide)) (fun c56 => ?_)
  refine sk_S.iload (i := 4) (dd DX6_speak 30 rfl) rfl ?_
  refine sk_S.bipush (v := 30) (dd DX6_speak 31 rfl) (by decide) ?_
  refine sk_S.icmp_le (tgt := 68) (dd DX6_speak 32 rfl) (by decide) (fun c63 => ?_) (fun c63 => absurd (nI_le (b := 30) (by omega) (by decide)) c63)
  refine sk_S.gets (dd DX6_speak 35 rfl) rfl gsX6_40 ?_
  refine sk_S.iload (i := 5) (dd DX6_speak 36 rfl) rfl ?_
  refine sk_S.iconst (v := 4) (dd DX6_speak 37 rfl) (by decide) ?_
  refine sk_S.imul (dd DX6_speak 38 rfl) ?_
  refine sk_S.iload_n (i := 2) (dd DX6_speak 39 rfl) rfl rfl ?_
  refine sk_S.iadd (dd DX6_speak 40 rfl) ?_
  refine sk_S.roald (dd DX6_speak 41 rfl) rfl (j := 3) ⟨by decide, by decide, by decide⟩ rfl ?_
  refine sk_S.istore (i := 6) (dd DX6_speak 42 rfl) (Nat.le_of_ble_eq_true rfl) rfl ?_
  refine sk_S.aload_n (i := 0) (dd DX6_speak 43 rfl) rfl rfl ?_
  refine sk_S.geti (dd DX6_speak 44 rfl) rfl fX6_29 se_4 (by decide) rfl ?_
  refine sk_S.bipush (v := 30) (dd DX6_speak 45 rfl) (by decide) ?_
  refine sk_S.icmp_ge (tgt := 110) (dd DX6_speak 46 rfl) (by decide) (fun c86 => absurd c86 (by rw [hV.2.2.2.2]; exact nI_ge (b := 30) (by omega) (by decide))) (fun c86 => ?_)
  refine sk_S.aload_n (i := 0) (dd DX6_speak 47 rfl) rfl rfl ?_
  refine sk_S.getr (dd DX6_speak 48 rfl) rfl fX6_9 se_4 (by decide) rfl ?_
  refine sk_S.aload_n (i := 0) (dd DX6_speak 49 rfl) rfl rfl ?_
  refine sk_S.geti (dd DX6_speak 50 rfl) rfl fX6_29 se_4 (by decide) rfl ?_
  refine sk_S.iload (i := 6) (dd DX6_speak 51 rfl) rfl ?_
  refine sk_S.iast (dd DX6_speak 52 rfl) se_17 (sk_ix_nI (k := n) hV.2.2.2.2 (by omega) (by decide)) ?_
  refine sk_S.aload_n (i := 0) (dd DX6_speak 53 rfl) rfl rfl ?_
  refine sk_S.dup (dd DX6_speak 54 rfl) rfl ?_
  refine sk_S.geti (dd DX6_speak 55 rfl) rfl fX6_29 se_4 (by decide) rfl ?_
  refine sk_S.iconst (v := 1) (dd DX6_speak 56 rfl) (by decide) ?_
  refine sk_S.iadd (dd DX6_speak 57 rfl) ?_
  refine sk_S.putf (dd DX6_speak 58 rfl) rfl pX6_29 se_4 (by decide) rfl rfl rfl ?_
  have xp := pshC (b := 13) hV.2.2.2.2 hV.2.2.2.1
  have hV2 := hV.up xp
  refine sk_S.aload_n (i := 0) (dd DX6_speak 59 rfl) rfl rfl ?_
  refine sk_S.iload (i := 6) (dd DX6_speak 60 rfl) rfl ?_
  refine sk_S.gets (dd DX6_speak 61 rfl) rfl gsX6_43 ?_
  refine sk_S.iload (i := 5) (dd DX6_speak 62 rfl) rfl ?_
  refine sk_S.roald (dd DX6_speak 63 rfl) rfl (j := 0) ⟨by decide, by decide, by decide⟩ rfl ?_
  refine sk_S.iload_n (i := 3) (dd DX6_speak 64 rfl) rfl rfl ?_
  refine sk_S.iload (i := 4) (dd DX6_speak 65 rfl) rfl ?_
  refine sk_S.iconst (v := 1) (dd DX6_speak 66 rfl) (by decide) ?_
  refine sk_S.iadd (dd DX6_speak 67 rfl) ?_
  refine sk_S.V (nI (dep + 1)) (nI_1 dep) ?_
  refine sk_S.callV (dd DX6_speak 68 rfl) rfl kX6_46 (cV_sy_5_5_3 (by simp only [List.length_cons, List.length_nil]; omega) (by omega) hV2 hp) se_4 (by decide) rfl rfl rfl rfl (Nat.le_of_ble_eq_true rfl) (fun r124 h124 q124 => ?_)
  obtain ⟨x124, rfl⟩ := q124
  show sk_S _ _ _ _ _ _ (.int _ :: _) _ _
  refine sk_S.iret (dd DX6_speak 69 rfl) rfl rfl ?_
  exact ⟨xp.tr x124, rfl⟩
set_option maxRecDepth 100000 in
set_option maxHeartbeats 1000000 in
theorem cV_sy_5_5_3p {l : Launch} {E : sk_V} {d : Nat} {h : sk_M} {m x : Int32} {t n dep : Nat} (hn : n + 0 ≤ 30) (hd : dep + 0 ≤ 30) (hV : voI h 5 m t n) (hp : m - nI t = 0) : sk_K l E (d + 2) MX6_say [.ref 4, .int 13, .int (-1), .int x, .int (nI dep)] h (fun r h1 => tcQ h h1 n [] 1 ∧ some (.int (0 : Int32)) = r) := by
  refine sk_K.of (by decide +kernel) (Nat.le_of_ble_eq_true rfl) ?_
  show sk_S l E (d + 2) _ 0 [some (.ref 4), some (.int 13), some (.int (-1)), some (.int x), some (.int (nI dep))] [] h _
  refine sk_S.iload_n (i := 1) (dd DX6_say_p1 0 rfl) rfl rfl ?_
  · refine sk_S.lookup (off := 147) (dd DX6_say_p1 1 rfl) (by decide) (by decide) (tgt := 148) (by decide) ?_
    refine sk_S.aload_n (i := 0) (dd DX6_say_p1 28 rfl) rfl rfl ?_
    refine sk_S.iload_n (i := 3) (dd DX6_say_p1 29 rfl) rfl rfl ?_
    refine sk_S.callV (dd DX6_say_p1 30 rfl) rfl kX6_49 (cV_partP hV hp) se_4 (by decide) rfl rfl rfl rfl (Nat.le_of_ble_eq_true rfl) (fun r150 h150 q150 => ?_)
    obtain ⟨x150, rfl⟩ := q150
    show sk_S _ _ _ _ _ _ (.int _ :: _) _ _
    refine sk_S.iret (dd DX6_say_p1 31 rfl) rfl rfl ?_
    exact ⟨x150, rfl⟩
set_option maxRecDepth 100000 in
set_option maxHeartbeats 1000000 in
theorem cV_sp_5_5_3p {l : Launch} {E : sk_V} {d : Nat} {h : sk_M} {m x : Int32} {t n dep : Nat} (hn : n + 1 ≤ 30) (hd : dep + 1 ≤ 30) (hV : voI h 5 m t n) (hp : m - nI t = 0) : sk_K l E (d + 3) MX6_speak [.ref 4, .int 5, .int 3, .int x, .int (nI dep)] h (fun r h1 => tcQ h h1 n [13] 1 ∧ some (.int (0 : Int32)) = r) := by
  refine sk_K.of (by decide +kernel) (Nat.le_of_ble_eq_true rfl) ?_
  show sk_S l E (d + 3) _ 0 [some (.ref 4), some (.int 5), some (.int 3), some (.int x), some (.int (nI dep)), none, none] [] h _
  refine sk_S.aload_n (i := 0) (dd DX6_speak 0 rfl) rfl rfl ?_
  refine sk_S.geti (dd DX6_speak 1 rfl) rfl fX6_32 se_4 (by decide) rfl ?_
  refine sk_S.if_eq (tgt := 9) (dd DX6_speak 2 rfl) (by decide) (fun c4 => ?_) (fun c4 => absurd hV.2.2.2.1 c4)
  refine sk_S.iload_n (i := 1) (dd DX6_speak 5 rfl) rfl rfl ?_
  refine sk_S.istore (i := 5) (dd DX6_speak 6 rfl) (Nat.le_of_ble_eq_true rfl) rfl ?_
  refine sk_S.iconst (v := 0) (dd DX6_speak 7 rfl) (by decide) ?_
  refine sk_S.istore (i := 6) (dd DX6_speak 8 rfl) (Nat.le_of_ble_eq_true rfl) rfl ?_
  refine sk_S.iload (i := 6) (dd DX6_speak 9 rfl) rfl ?_
  refine sk_S.bipush (v := 7) (dd DX6_speak 10 rfl) (by decide) ?_
  refine sk_S.icmp_ge (tgt := 54) (dd DX6_speak 11 rfl) (by decide) (fun c19 => absurd c19 (by decide)) (fun c19 => ?_)
  refine sk_S.iload (i := 5) (dd DX6_speak 12 rfl) rfl ?_
  refine sk_S.if_le (tgt := 54) (dd DX6_speak 13 rfl) (by decide) (fun c24 => absurd c24 (by decide)) (fun c24 => ?_)
  refine sk_S.gets (dd DX6_speak 14 rfl) rfl gsX6_40 ?_
  refine sk_S.iload (i := 5) (dd DX6_speak 15 rfl) rfl ?_
  refine sk_S.iconst (v := 4) (dd DX6_speak 16 rfl) (by decide) ?_
  refine sk_S.imul (dd DX6_speak 17 rfl) ?_
  refine sk_S.iload_n (i := 2) (dd DX6_speak 18 rfl) rfl rfl ?_
  refine sk_S.iadd (dd DX6_speak 19 rfl) ?_
  refine sk_S.roald (dd DX6_speak 20 rfl) rfl (j := 23) ⟨by decide, by decide, by decide⟩ rfl ?_
  refine sk_S.if_ne (tgt := 54) (dd DX6_speak 21 rfl) (by decide) (fun c37 => absurd (by decide) c37) (fun c37 => ?_)
  refine sk_S.gets (dd DX6_speak 22 rfl) rfl gsX6_43 ?_
  refine sk_S.iload (i := 5) (dd DX6_speak 23 rfl) rfl ?_
  refine sk_S.roald (dd DX6_speak 24 rfl) rfl (j := 5) ⟨by decide, by decide, by decide⟩ rfl ?_
  refine sk_S.istore (i := 5) (dd DX6_speak 25 rfl) (Nat.le_of_ble_eq_true rfl) rfl ?_
  refine sk_S.iinc (i := 6) (v := _ + 1) (dd DX6_speak 26 rfl) rfl rfl rfl ?_
  refine sk_S.goto (tgt := 15) (dd DX6_speak 27 rfl) (by decide) ?_
  refine sk_S.iload (i := 6) (dd DX6_speak 9 rfl) rfl ?_
  refine sk_S.bipush (v := 7) (dd DX6_speak 10 rfl) (by decide) ?_
  refine sk_S.icmp_ge (tgt := 54) (dd DX6_speak 11 rfl) (by decide) (fun c19 => absurd c19 (by decide)) (fun c19 => ?_)
  refine sk_S.iload (i := 5) (dd DX6_speak 12 rfl) rfl ?_
  refine sk_S.if_le (tgt := 54) (dd DX6_speak 13 rfl) (by decide) (fun c24 => absurd c24 (by decide)) (fun c24 => ?_)
  refine sk_S.gets (dd DX6_speak 14 rfl) rfl gsX6_40 ?_
  refine sk_S.iload (i := 5) (dd DX6_speak 15 rfl) rfl ?_
  refine sk_S.iconst (v := 4) (dd DX6_speak 16 rfl) (by decide) ?_
  refine sk_S.imul (dd DX6_speak 17 rfl) ?_
  refine sk_S.iload_n (i := 2) (dd DX6_speak 18 rfl) rfl rfl ?_
  refine sk_S.iadd (dd DX6_speak 19 rfl) ?_
  refine sk_S.roald (dd DX6_speak 20 rfl) rfl (j := 11) ⟨by decide, by decide, by decide⟩ rfl ?_
  refine sk_S.if_ne (tgt := 54) (dd DX6_speak 21 rfl) (by decide) (fun c37 => absurd (by decide) c37) (fun c37 => ?_)
  refine sk_S.gets (dd DX6_speak 22 rfl) rfl gsX6_43 ?_
  refine sk_S.iload (i := 5) (dd DX6_speak 23 rfl) rfl ?_
  refine sk_S.roald (dd DX6_speak 24 rfl) rfl (j := 2) ⟨by decide, by decide, by decide⟩ rfl ?_
  refine sk_S.istore (i := 5) (dd DX6_speak 25 rfl) (Nat.le_of_ble_eq_true rfl) rfl ?_
  refine sk_S.iinc (i := 6) (v := _ + 1) (dd DX6_speak 26 rfl) rfl rfl rfl ?_
  refine sk_S.goto (tgt := 15) (dd DX6_speak 27 rfl) (by decide) ?_
  refine sk_S.iload (i := 6) (dd DX6_speak 9 rfl) rfl ?_
  refine sk_S.bipush (v := 7) (dd DX6_speak 10 rfl) (by decide) ?_
  refine sk_S.icmp_ge (tgt := 54) (dd DX6_speak 11 rfl) (by decide) (fun c19 => absurd c19 (by decide)) (fun c19 => ?_)
  refine sk_S.iload (i := 5) (dd DX6_speak 12 rfl) rfl ?_
  refine sk_S.if_le (tgt := 54) (dd DX6_speak 13 rfl) (by decide) (fun c24 => ?_) (fun c24 => absurd (by decide) c24)
  refine sk_S.iload (i := 5) (dd DX6_speak 28 rfl) rfl ?_
  refine sk_S.if_lt (tgt := 66) (dd DX6_speak 29 rfl) (by decide) (fun c56 => absurd c56 (by decide)) (fun c56 => ?_)
  refine sk_S.iload (i := 4) (dd DX6_speak 30 rfl) rfl ?_
  refine sk_S.bipush (v := 30) (dd DX6_speak 31 rfl) (by decide) ?_
  refine sk_S.icmp_le (tgt := 68) (dd DX6_speak 32 rfl) (by decide) (fun c63 => ?_) (fun c63 => absurd (nI_le (b := 30) (by omega) (by decide)) c63)
  refine sk_S.gets (dd DX6_speak 35 rfl) rfl gsX6_40 ?_
  refine sk_S.iload (i := 5) (dd DX6_speak 36 rfl) rfl ?_
  refine sk_S.iconst (v := 4) (dd DX6_speak 37 rfl) (by decide) ?_
  refine sk_S.imul (dd DX6_speak 38 rfl) ?_
  refine sk_S.iload_n (i := 2) (dd DX6_speak 39 rfl) rfl rfl ?_
  refine sk_S.iadd (dd DX6_speak 40 rfl) ?_
  refine sk_S.roald (dd DX6_speak 41 rfl) rfl (j := 3) ⟨by decide, by decide, by decide⟩ rfl ?_
  refine sk_S.istore (i := 6) (dd DX6_speak 42 rfl) (Nat.le_of_ble_eq_true rfl) rfl ?_
  refine sk_S.aload_n (i := 0) (dd DX6_speak 43 rfl) rfl rfl ?_
  refine sk_S.geti (dd DX6_speak 44 rfl) rfl fX6_29 se_4 (by decide) rfl ?_
  refine sk_S.bipush (v := 30) (dd DX6_speak 45 rfl) (by decide) ?_
  refine sk_S.icmp_ge (tgt := 110) (dd DX6_speak 46 rfl) (by decide) (fun c86 => absurd c86 (by rw [hV.2.2.2.2]; exact nI_ge (b := 30) (by omega) (by decide))) (fun c86 => ?_)
  refine sk_S.aload_n (i := 0) (dd DX6_speak 47 rfl) rfl rfl ?_
  refine sk_S.getr (dd DX6_speak 48 rfl) rfl fX6_9 se_4 (by decide) rfl ?_
  refine sk_S.aload_n (i := 0) (dd DX6_speak 49 rfl) rfl rfl ?_
  refine sk_S.geti (dd DX6_speak 50 rfl) rfl fX6_29 se_4 (by decide) rfl ?_
  refine sk_S.iload (i := 6) (dd DX6_speak 51 rfl) rfl ?_
  refine sk_S.iast (dd DX6_speak 52 rfl) se_17 (sk_ix_nI (k := n) hV.2.2.2.2 (by omega) (by decide)) ?_
  refine sk_S.aload_n (i := 0) (dd DX6_speak 53 rfl) rfl rfl ?_
  refine sk_S.dup (dd DX6_speak 54 rfl) rfl ?_
  refine sk_S.geti (dd DX6_speak 55 rfl) rfl fX6_29 se_4 (by decide) rfl ?_
  refine sk_S.iconst (v := 1) (dd DX6_speak 56 rfl) (by decide) ?_
  refine sk_S.iadd (dd DX6_speak 57 rfl) ?_
  refine sk_S.putf (dd DX6_speak 58 rfl) rfl pX6_29 se_4 (by decide) rfl rfl rfl ?_
  have xp := pshC (b := 13) hV.2.2.2.2 hV.2.2.2.1
  have hV2 := hV.up xp
  refine sk_S.aload_n (i := 0) (dd DX6_speak 59 rfl) rfl rfl ?_
  refine sk_S.iload (i := 6) (dd DX6_speak 60 rfl) rfl ?_
  refine sk_S.gets (dd DX6_speak 61 rfl) rfl gsX6_43 ?_
  refine sk_S.iload (i := 5) (dd DX6_speak 62 rfl) rfl ?_
  refine sk_S.roald (dd DX6_speak 63 rfl) rfl (j := 0) ⟨by decide, by decide, by decide⟩ rfl ?_
  refine sk_S.iload_n (i := 3) (dd DX6_speak 64 rfl) rfl rfl ?_
  refine sk_S.iload (i := 4) (dd DX6_speak 65 rfl) rfl ?_
  refine sk_S.iconst (v := 1) (dd DX6_speak 66 rfl) (by decide) ?_
  refine sk_S.iadd (dd DX6_speak 67 rfl) ?_
  refine sk_S.V (nI (dep + 1)) (nI_1 dep) ?_
  refine sk_S.callV (dd DX6_speak 68 rfl) rfl kX6_46 (cV_sy_5_5_3p (by simp only [List.length_cons, List.length_nil]; omega) (by omega) hV2 hp) se_4 (by decide) rfl rfl rfl rfl (Nat.le_of_ble_eq_true rfl) (fun r124 h124 q124 => ?_)
  obtain ⟨x124, rfl⟩ := q124
  show sk_S _ _ _ _ _ _ (.int _ :: _) _ _
  refine sk_S.iret (dd DX6_speak 69 rfl) rfl rfl ?_
  exact ⟨xp.tr x124, rfl⟩
set_option maxRecDepth 100000 in
set_option maxHeartbeats 1000000 in
theorem cV_sy_6_6_0 {l : Launch} {E : sk_V} {d : Nat} {h : sk_M} {m x : Int32} {t n dep : Nat} (hn : n + 0 ≤ 30) (hd : dep + 0 ≤ 30) (hV : voI h 6 m t n) : sk_K l E (d + 1) MX6_say [.ref 4, .int 70, .int 0, .int x, .int (nI dep)] h (fun r h1 => tcQ h h1 n [] 0 ∧ some (.int (9 : Int32)) = r) := by
  refine sk_K.of (by decide +kernel) (Nat.le_of_ble_eq_true rfl) ?_
  show sk_S l E (d + 1) _ 0 [some (.ref 4), some (.int 70), some (.int 0), some (.int x), some (.int (nI dep))] [] h _
  refine sk_S.iload_n (i := 1) (dd DX6_say_p1 0 rfl) rfl rfl ?_
  · refine sk_S.lookup (off := 266) (dd DX6_say_p1 1 rfl) (by decide) (by decide) (tgt := 267) (by decide) ?_
    refine sk_S.bipush (v := 9) (dd DX6_say_p2 12 rfl) (by decide) ?_
    refine sk_S.iret (dd DX6_say_p2 13 rfl) rfl rfl ?_
    have e := tcQ.rf hV.2.2.2.2
    rw [hV.2.2.2.1] at e
    exact ⟨e, rfl⟩
set_option maxRecDepth 100000 in
set_option maxHeartbeats 1000000 in
theorem cV_sp_6_6_0 {l : Launch} {E : sk_V} {d : Nat} {h : sk_M} {m x : Int32} {t n dep : Nat} (hn : n + 1 ≤ 30) (hd : dep + 1 ≤ 30) (hV : voI h 6 m t n) : sk_K l E (d + 2) MX6_speak [.ref 4, .int 6, .int 0, .int x, .int (nI dep)] h (fun r h1 => tcQ h h1 n [70] 0 ∧ some (.int (9 : Int32)) = r) := by
  refine sk_K.of (by decide +kernel) (Nat.le_of_ble_eq_true rfl) ?_
  show sk_S l E (d + 2) _ 0 [some (.ref 4), some (.int 6), some (.int 0), some (.int x), some (.int (nI dep)), none, none] [] h _
  refine sk_S.aload_n (i := 0) (dd DX6_speak 0 rfl) rfl rfl ?_
  refine sk_S.geti (dd DX6_speak 1 rfl) rfl fX6_32 se_4 (by decide) rfl ?_
  refine sk_S.if_eq (tgt := 9) (dd DX6_speak 2 rfl) (by decide) (fun c4 => ?_) (fun c4 => absurd hV.2.2.2.1 c4)
  refine sk_S.iload_n (i := 1) (dd DX6_speak 5 rfl) rfl rfl ?_
  refine sk_S.istore (i := 5) (dd DX6_speak 6 rfl) (Nat.le_of_ble_eq_true rfl) rfl ?_
  refine sk_S.iconst (v := 0) (dd DX6_speak 7 rfl) (by decide) ?_
  refine sk_S.istore (i := 6) (dd DX6_speak 8 rfl) (Nat.le_of_ble_eq_true rfl) rfl ?_
  refine sk_S.iload (i := 6) (dd DX6_speak 9 rfl) rfl ?_
  refine sk_S.bipush (v := 7) (dd DX6_speak 10 rfl) (by decide) ?_
  refine sk_S.icmp_ge (tgt := 54) (dd DX6_speak 11 rfl) (by decide) (fun c19 => absurd c19 (by decide)) (fun c19 => ?_)
  refine sk_S.iload (i := 5) (dd DX6_speak 12 rfl) rfl ?_
  refine sk_S.if_le (tgt := 54) (dd DX6_speak 13 rfl) (by decide) (fun c24 => absurd c24 (by decide)) (fun c24 => ?_)
  refine sk_S.gets (dd DX6_speak 14 rfl) rfl gsX6_40 ?_
  refine sk_S.iload (i := 5) (dd DX6_speak 15 rfl) rfl ?_
  refine sk_S.iconst (v := 4) (dd DX6_speak 16 rfl) (by decide) ?_
  refine sk_S.imul (dd DX6_speak 17 rfl) ?_
  refine sk_S.iload_n (i := 2) (dd DX6_speak 18 rfl) rfl rfl ?_
  refine sk_S.iadd (dd DX6_speak 19 rfl) ?_
  refine sk_S.roald (dd DX6_speak 20 rfl) rfl (j := 24) ⟨by decide, by decide, by decide⟩ rfl ?_
  refine sk_S.if_ne (tgt := 54) (dd DX6_speak 21 rfl) (by decide) (fun c37 => ?_) (fun c37 => absurd c37 (by decide))
  refine sk_S.iload (i := 5) (dd DX6_speak 28 rfl) rfl ?_
  refine sk_S.if_lt (tgt := 66) (dd DX6_speak 29 rfl) (by decide) (fun c56 => absurd c56 (by decide)) (fun c56 => ?_)
  refine sk_S.iload (i := 4) (dd DX6_speak 30 rfl) rfl ?_
  refine sk_S.bipush (v := 30) (dd DX6_speak 31 rfl) (by decide) ?_
  refine sk_S.icmp_le (tgt := 68) (dd DX6_speak 32 rfl) (by decide) (fun c63 => ?_) (fun c63 => absurd (nI_le (b := 30) (by omega) (by decide)) c63)
  refine sk_S.gets (dd DX6_speak 35 rfl) rfl gsX6_40 ?_
  refine sk_S.iload (i := 5) (dd DX6_speak 36 rfl) rfl ?_
  refine sk_S.iconst (v := 4) (dd DX6_speak 37 rfl) (by decide) ?_
  refine sk_S.imul (dd DX6_speak 38 rfl) ?_
  refine sk_S.iload_n (i := 2) (dd DX6_speak 39 rfl) rfl rfl ?_
  refine sk_S.iadd (dd DX6_speak 40 rfl) ?_
  refine sk_S.roald (dd DX6_speak 41 rfl) rfl (j := 24) ⟨by decide, by decide, by decide⟩ rfl ?_
  refine sk_S.istore (i := 6) (dd DX6_speak 42 rfl) (Nat.le_of_ble_eq_true rfl) rfl ?_
  refine sk_S.aload_n (i := 0) (dd DX6_speak 43 rfl) rfl rfl ?_
  refine sk_S.geti (dd DX6_speak 44 rfl) rfl fX6_29 se_4 (by decide) rfl ?_
  refine sk_S.bipush (v := 30) (dd DX6_speak 45 rfl) (by decide) ?_
  refine sk_S.icmp_ge (tgt := 110) (dd DX6_speak 46 rfl) (by decide) (fun c86 => absurd c86 (by rw [hV.2.2.2.2]; exact nI_ge (b := 30) (by omega) (by decide))) (fun c86 => ?_)
  refine sk_S.aload_n (i := 0) (dd DX6_speak 47 rfl) rfl rfl ?_
  refine sk_S.getr (dd DX6_speak 48 rfl) rfl fX6_9 se_4 (by decide) rfl ?_
  refine sk_S.aload_n (i := 0) (dd DX6_speak 49 rfl) rfl rfl ?_
  refine sk_S.geti (dd DX6_speak 50 rfl) rfl fX6_29 se_4 (by decide) rfl ?_
  refine sk_S.iload (i := 6) (dd DX6_speak 51 rfl) rfl ?_
  refine sk_S.iast (dd DX6_speak 52 rfl) se_17 (sk_ix_nI (k := n) hV.2.2.2.2 (by omega) (by decide)) ?_
  refine sk_S.aload_n (i := 0) (dd DX6_speak 53 rfl) rfl rfl ?_
  refine sk_S.dup (dd DX6_speak 54 rfl) rfl ?_
  refine sk_S.geti (dd DX6_speak 55 rfl) rfl fX6_29 se_4 (by decide) rfl ?_
  refine sk_S.iconst (v := 1) (dd DX6_speak 56 rfl) (by decide) ?_
  refine sk_S.iadd (dd DX6_speak 57 rfl) ?_
  refine sk_S.putf (dd DX6_speak 58 rfl) rfl pX6_29 se_4 (by decide) rfl rfl rfl ?_
  have xp := pshC (b := 70) hV.2.2.2.2 hV.2.2.2.1
  have hV2 := hV.up xp
  refine sk_S.aload_n (i := 0) (dd DX6_speak 59 rfl) rfl rfl ?_
  refine sk_S.iload (i := 6) (dd DX6_speak 60 rfl) rfl ?_
  refine sk_S.gets (dd DX6_speak 61 rfl) rfl gsX6_43 ?_
  refine sk_S.iload (i := 5) (dd DX6_speak 62 rfl) rfl ?_
  refine sk_S.roald (dd DX6_speak 63 rfl) rfl (j := 6) ⟨by decide, by decide, by decide⟩ rfl ?_
  refine sk_S.iload_n (i := 3) (dd DX6_speak 64 rfl) rfl rfl ?_
  refine sk_S.iload (i := 4) (dd DX6_speak 65 rfl) rfl ?_
  refine sk_S.iconst (v := 1) (dd DX6_speak 66 rfl) (by decide) ?_
  refine sk_S.iadd (dd DX6_speak 67 rfl) ?_
  refine sk_S.V (nI (dep + 1)) (nI_1 dep) ?_
  refine sk_S.callV (dd DX6_speak 68 rfl) rfl kX6_46 (cV_sy_6_6_0 (by simp only [List.length_cons, List.length_nil]; omega) (by omega) hV2) se_4 (by decide) rfl rfl rfl rfl (Nat.le_of_ble_eq_true rfl) (fun r124 h124 q124 => ?_)
  obtain ⟨x124, rfl⟩ := q124
  show sk_S _ _ _ _ _ _ (.int _ :: _) _ _
  refine sk_S.iret (dd DX6_speak 69 rfl) rfl rfl ?_
  exact ⟨xp.tr x124, rfl⟩
set_option maxRecDepth 100000 in
set_option maxHeartbeats 1000000 in
theorem cV_sy_6_0_1 {l : Launch} {E : sk_V} {d : Nat} {h : sk_M} {m x : Int32} {t n dep : Nat} (hn : n + 1 ≤ 30) (hd : dep + 1 ≤ 30) (hV : voI h 6 m t n) : sk_K l E (d + 4) MX6_say [.ref 4, .int 11, .int (-1), .int x, .int (nI dep)] h (fun r h1 => tcQ h h1 n [70] 0 ∧ some (.int ((9 : Int32) * 2)) = r) := by
  refine sk_K.of (by decide +kernel) (Nat.le_of_ble_eq_true rfl) ?_
  show sk_S l E (d + 4) _ 0 [some (.ref 4), some (.int 11), some (.int (-1)), some (.int x), some (.int (nI dep))] [] h _
  refine sk_S.iload_n (i := 1) (dd DX6_say_p1 0 rfl) rfl rfl ?_
  · refine sk_S.lookup (off := 114) (dd DX6_say_p1 1 rfl) (by decide) (by decide) (tgt := 115) (by decide) ?_
    refine sk_S.aload_n (i := 0) (dd DX6_say_p1 7 rfl) rfl rfl ?_
    refine sk_S.aload_n (i := 0) (dd DX6_say_p1 8 rfl) rfl rfl ?_
    refine sk_S.geti (dd DX6_say_p1 9 rfl) rfl fX6_21 se_4 (by decide) rfl ?_
    refine sk_S.V 6 hV.1 ?_
    refine sk_S.iconst (v := 0) (dd DX6_say_p1 10 rfl) (by decide) ?_
    refine sk_S.iload_n (i := 3) (dd DX6_say_p1 11 rfl) rfl rfl ?_
    refine sk_S.iload (i := 4) (dd DX6_say_p1 12 rfl) rfl ?_
    refine sk_S.callV (dd DX6_say_p1 13 rfl) rfl kX6_36 (cV_sp_6_6_0 (x := x) (by omega) (by omega) hV) se_4 (by decide) rfl rfl rfl rfl (Nat.le_of_ble_eq_true rfl) (fun r124 h124 q124 => ?_)
    obtain ⟨x124, rfl⟩ := q124
    show sk_S _ _ _ _ _ _ (.int _ :: _) _ _
    refine sk_S.iconst (v := 2) (dd DX6_say_p1 14 rfl) (by decide) ?_
    refine sk_S.imul (dd DX6_say_p1 15 rfl) ?_
    refine sk_S.iret (dd DX6_say_p1 16 rfl) rfl rfl ?_
    exact ⟨x124, rfl⟩
set_option maxRecDepth 100000 in
set_option maxHeartbeats 1000000 in
theorem cV_sp_6_0_1 {l : Launch} {E : sk_V} {d : Nat} {h : sk_M} {m x : Int32} {t n dep : Nat} (hn : n + 2 ≤ 30) (hd : dep + 2 ≤ 30) (hV : voI h 6 m t n) : sk_K l E (d + 5) MX6_speak [.ref 4, .int 0, .int 1, .int x, .int (nI dep)] h (fun r h1 => tcQ h h1 n [11, 70] 0 ∧ some (.int ((9 : Int32) * 2)) = r) := by
  refine sk_K.of (by decide +kernel) (Nat.le_of_ble_eq_true rfl) ?_
  show sk_S l E (d + 5) _ 0 [some (.ref 4), some (.int 0), some (.int 1), some (.int x), some (.int (nI dep)), none, none] [] h _
  refine sk_S.aload_n (i := 0) (dd DX6_speak 0 rfl) rfl rfl ?_
  refine sk_S.geti (dd DX6_speak 1 rfl) rfl fX6_32 se_4 (by decide) rfl ?_
  refine sk_S.if_eq (tgt := 9) (dd DX6_speak 2 rfl) (by decide) (fun c4 => ?_) (fun c4 => absurd hV.2.2.2.1 c4)
  refine sk_S.iload_n (i := 1) (dd DX6_speak 5 rfl) rfl rfl ?_
  refine sk_S.istore (i := 5) (dd DX6_speak 6 rfl) (Nat.le_of_ble_eq_true rfl) rfl ?_
  refine sk_S.iconst (v := 0) (dd DX6_speak 7 rfl) (by decide) ?_
  refine sk_S.istore (i := 6) (dd DX6_speak 8 rfl) (Nat.le_of_ble_eq_true rfl) rfl ?_
  refine sk_S.iload (i := 6) (dd DX6_speak 9 rfl) rfl ?_
  refine sk_S.bipush (v := 7) (dd DX6_speak 10 rfl) (by decide) ?_
  refine sk_S.icmp_ge (tgt := 54) (dd DX6_speak 11 rfl) (by decide) (fun c19 => absurd c19 (by decide)) (fun c19 => ?_)
  refine sk_S.iload (i := 5) (dd DX6_speak 12 rfl) rfl ?_
  refine sk_S.if_le (tgt := 54) (dd DX6_speak 13 rfl) (by decide) (fun c24 => ?_) (fun c24 => absurd (by decide) c24)
  refine sk_S.iload (i := 5) (dd DX6_speak 28 rfl) rfl ?_
  refine sk_S.if_lt (tgt := 66) (dd DX6_speak 29 rfl) (by decide) (fun c56 => absurd c56 (by decide)) (fun c56 => ?_)
  refine sk_S.iload (i := 4) (dd DX6_speak 30 rfl) rfl ?_
  refine sk_S.bipush (v := 30) (dd DX6_speak 31 rfl) (by decide) ?_
  refine sk_S.icmp_le (tgt := 68) (dd DX6_speak 32 rfl) (by decide) (fun c63 => ?_) (fun c63 => absurd (nI_le (b := 30) (by omega) (by decide)) c63)
  refine sk_S.gets (dd DX6_speak 35 rfl) rfl gsX6_40 ?_
  refine sk_S.iload (i := 5) (dd DX6_speak 36 rfl) rfl ?_
  refine sk_S.iconst (v := 4) (dd DX6_speak 37 rfl) (by decide) ?_
  refine sk_S.imul (dd DX6_speak 38 rfl) ?_
  refine sk_S.iload_n (i := 2) (dd DX6_speak 39 rfl) rfl rfl ?_
  refine sk_S.iadd (dd DX6_speak 40 rfl) ?_
  refine sk_S.roald (dd DX6_speak 41 rfl) rfl (j := 1) ⟨by decide, by decide, by decide⟩ rfl ?_
  refine sk_S.istore (i := 6) (dd DX6_speak 42 rfl) (Nat.le_of_ble_eq_true rfl) rfl ?_
  refine sk_S.aload_n (i := 0) (dd DX6_speak 43 rfl) rfl rfl ?_
  refine sk_S.geti (dd DX6_speak 44 rfl) rfl fX6_29 se_4 (by decide) rfl ?_
  refine sk_S.bipush (v := 30) (dd DX6_speak 45 rfl) (by decide) ?_
  refine sk_S.icmp_ge (tgt := 110) (dd DX6_speak 46 rfl) (by decide) (fun c86 => absurd c86 (by rw [hV.2.2.2.2]; exact nI_ge (b := 30) (by omega) (by decide))) (fun c86 => ?_)
  refine sk_S.aload_n (i := 0) (dd DX6_speak 47 rfl) rfl rfl ?_
  refine sk_S.getr (dd DX6_speak 48 rfl) rfl fX6_9 se_4 (by decide) rfl ?_
  refine sk_S.aload_n (i := 0) (dd DX6_speak 49 rfl) rfl rfl ?_
  refine sk_S.geti (dd DX6_speak 50 rfl) rfl fX6_29 se_4 (by decide) rfl ?_
  refine sk_S.iload (i := 6) (dd DX6_speak 51 rfl) rfl ?_
  refine sk_S.iast (dd DX6_speak 52 rfl) se_17 (sk_ix_nI (k := n) hV.2.2.2.2 (by omega) (by decide)) ?_
  refine sk_S.aload_n (i := 0) (dd DX6_speak 53 rfl) rfl rfl ?_
  refine sk_S.dup (dd DX6_speak 54 rfl) rfl ?_
  refine sk_S.geti (dd DX6_speak 55 rfl) rfl fX6_29 se_4 (by decide) rfl ?_
  refine sk_S.iconst (v := 1) (dd DX6_speak 56 rfl) (by decide) ?_
  refine sk_S.iadd (dd DX6_speak 57 rfl) ?_
  refine sk_S.putf (dd DX6_speak 58 rfl) rfl pX6_29 se_4 (by decide) rfl rfl rfl ?_
  have xp := pshC (b := 11) hV.2.2.2.2 hV.2.2.2.1
  have hV2 := hV.up xp
  refine sk_S.aload_n (i := 0) (dd DX6_speak 59 rfl) rfl rfl ?_
  refine sk_S.iload (i := 6) (dd DX6_speak 60 rfl) rfl ?_
  refine sk_S.gets (dd DX6_speak 61 rfl) rfl gsX6_43 ?_
  refine sk_S.iload (i := 5) (dd DX6_speak 62 rfl) rfl ?_
  refine sk_S.roald (dd DX6_speak 63 rfl) rfl (j := 0) ⟨by decide, by decide, by decide⟩ rfl ?_
  refine sk_S.iload_n (i := 3) (dd DX6_speak 64 rfl) rfl rfl ?_
  refine sk_S.iload (i := 4) (dd DX6_speak 65 rfl) rfl ?_
  refine sk_S.iconst (v := 1) (dd DX6_speak 66 rfl) (by decide) ?_
  refine sk_S.iadd (dd DX6_speak 67 rfl) ?_
  refine sk_S.V (nI (dep + 1)) (nI_1 dep) ?_
  refine sk_S.callV (dd DX6_speak 68 rfl) rfl kX6_46 (cV_sy_6_0_1 (by simp only [List.length_cons, List.length_nil]; omega) (by omega) hV2) se_4 (by decide) rfl rfl rfl rfl (Nat.le_of_ble_eq_true rfl) (fun r124 h124 q124 => ?_)
  obtain ⟨x124, rfl⟩ := q124
  show sk_S _ _ _ _ _ _ (.int _ :: _) _ _
  refine sk_S.iret (dd DX6_speak 69 rfl) rfl rfl ?_
  exact ⟨xp.tr x124, rfl⟩
set_option maxRecDepth 100000 in
set_option maxHeartbeats 1000000 in
theorem cV_sy_6_6_1 {l : Launch} {E : sk_V} {d : Nat} {h : sk_M} {m x : Int32} {t n dep : Nat} (hn : n + 2 ≤ 30) (hd : dep + 2 ≤ 30) (hV : voI h 6 m t n) : sk_K l E (d + 7) MX6_say [.ref 4, .int 71, .int 0, .int x, .int (nI dep)] h (fun r h1 => tcQ h h1 n [11, 70] 0 ∧ some (.int (((9 : Int32) * 2) + m)) = r) := by
  refine sk_K.of (by decide +kernel) (Nat.le_of_ble_eq_true rfl) ?_
  show sk_S l E (d + 7) _ 0 [some (.ref 4), some (.int 71), some (.int 0), some (.int x), some (.int (nI dep))] [] h _
  refine sk_S.iload_n (i := 1) (dd DX6_say_p1 0 rfl) rfl rfl ?_
  · refine sk_S.lookup (off := 251) (dd DX6_say_p1 1 rfl) (by decide) (by decide) (tgt := 252) (by decide) ?_
    refine sk_S.aload_n (i := 0) (dd DX6_say_p2 2 rfl) rfl rfl ?_
    refine sk_S.iload_n (i := 2) (dd DX6_say_p2 3 rfl) rfl rfl ?_
    refine sk_S.iconst (v := 1) (dd DX6_say_p2 4 rfl) (by decide) ?_
    refine sk_S.iload_n (i := 3) (dd DX6_say_p2 5 rfl) rfl rfl ?_
    refine sk_S.iload (i := 4) (dd DX6_say_p2 6 rfl) rfl ?_
    refine sk_S.callV (dd DX6_say_p2 7 rfl) rfl kX6_36 (cV_sp_6_0_1 (x := x) (by omega) (by omega) hV) se_4 (by decide) rfl rfl rfl rfl (Nat.le_of_ble_eq_true rfl) (fun r258 h258 q258 => ?_)
    obtain ⟨x258, rfl⟩ := q258
    show sk_S _ _ _ _ _ _ (.int _ :: _) _ _
    refine sk_S.aload_n (i := 0) (dd DX6_say_p2 8 rfl) rfl rfl ?_
    refine sk_S.geti (dd DX6_say_p2 9 rfl) rfl fX6_25 se_4 (by decide) rfl ?_
    refine sk_S.V m ((x258.2.2.2.1 5 (by decide) (by decide)).trans hV.2.2.1) ?_
    refine sk_S.iadd (dd DX6_say_p2 10 rfl) ?_
    refine sk_S.iret (dd DX6_say_p2 11 rfl) rfl rfl ?_
    exact ⟨x258, rfl⟩
set_option maxRecDepth 100000 in
set_option maxHeartbeats 1000000 in
theorem cV_sp_6_6_1 {l : Launch} {E : sk_V} {d : Nat} {h : sk_M} {m x : Int32} {t n dep : Nat} (hn : n + 3 ≤ 30) (hd : dep + 3 ≤ 30) (hV : voI h 6 m t n) : sk_K l E (d + 8) MX6_speak [.ref 4, .int 6, .int 1, .int x, .int (nI dep)] h (fun r h1 => tcQ h h1 n [71, 11, 70] 0 ∧ some (.int (((9 : Int32) * 2) + m)) = r) := by
  refine sk_K.of (by decide +kernel) (Nat.le_of_ble_eq_true rfl) ?_
  show sk_S l E (d + 8) _ 0 [some (.ref 4), some (.int 6), some (.int 1), some (.int x), some (.int (nI dep)), none, none] [] h _
  refine sk_S.aload_n (i := 0) (dd DX6_speak 0 rfl) rfl rfl ?_
  refine sk_S.geti (dd DX6_speak 1 rfl) rfl fX6_32 se_4 (by decide) rfl ?_
  refine sk_S.if_eq (tgt := 9) (dd DX6_speak 2 rfl) (by decide) (fun c4 => ?_) (fun c4 => absurd hV.2.2.2.1 c4)
  refine sk_S.iload_n (i := 1) (dd DX6_speak 5 rfl) rfl rfl ?_
  refine sk_S.istore (i := 5) (dd DX6_speak 6 rfl) (Nat.le_of_ble_eq_true rfl) rfl ?_
  refine sk_S.iconst (v := 0) (dd DX6_speak 7 rfl) (by decide) ?_
  refine sk_S.istore (i := 6) (dd DX6_speak 8 rfl) (Nat.le_of_ble_eq_true rfl) rfl ?_
  refine sk_S.iload (i := 6) (dd DX6_speak 9 rfl) rfl ?_
  refine sk_S.bipush (v := 7) (dd DX6_speak 10 rfl) (by decide) ?_
  refine sk_S.icmp_ge (tgt := 54) (dd DX6_speak 11 rfl) (by decide) (fun c19 => absurd c19 (by decide)) (fun c19 => ?_)
  refine sk_S.iload (i := 5) (dd DX6_speak 12 rfl) rfl ?_
  refine sk_S.if_le (tgt := 54) (dd DX6_speak 13 rfl) (by decide) (fun c24 => absurd c24 (by decide)) (fun c24 => ?_)
  refine sk_S.gets (dd DX6_speak 14 rfl) rfl gsX6_40 ?_
  refine sk_S.iload (i := 5) (dd DX6_speak 15 rfl) rfl ?_
  refine sk_S.iconst (v := 4) (dd DX6_speak 16 rfl) (by decide) ?_
  refine sk_S.imul (dd DX6_speak 17 rfl) ?_
  refine sk_S.iload_n (i := 2) (dd DX6_speak 18 rfl) rfl rfl ?_
  refine sk_S.iadd (dd DX6_speak 19 rfl) ?_
  refine sk_S.roald (dd DX6_speak 20 rfl) rfl (j := 25) ⟨by decide, by decide, by decide⟩ rfl ?_
  refine sk_S.if_ne (tgt := 54) (dd DX6_speak 21 rfl) (by decide) (fun c37 => ?_) (fun c37 => absurd c37 (by decide))
  refine sk_S.iload (i := 5) (dd DX6_speak 28 rfl) rfl ?_
  refine sk_S.if_lt (tgt := 66) (dd DX6_speak 29 rfl) (by decide) (fun c56 => absurd c56 (by decide)) (fun c56 => ?_)
  refine sk_S.iload (i := 4) (dd DX6_speak 30 rfl) rfl ?_
  refine sk_S.bipush (v := 30) (dd DX6_speak 31 rfl) (by decide) ?_
  refine sk_S.icmp_le (tgt := 68) (dd DX6_speak 32 rfl) (by decide) (fun c63 => ?_) (fun c63 => absurd (nI_le (b := 30) (by omega) (by decide)) c63)
  refine sk_S.gets (dd DX6_speak 35 rfl) rfl gsX6_40 ?_
  refine sk_S.iload (i := 5) (dd DX6_speak 36 rfl) rfl ?_
  refine sk_S.iconst (v := 4) (dd DX6_speak 37 rfl) (by decide) ?_
  refine sk_S.imul (dd DX6_speak 38 rfl) ?_
  refine sk_S.iload_n (i := 2) (dd DX6_speak 39 rfl) rfl rfl ?_
  refine sk_S.iadd (dd DX6_speak 40 rfl) ?_
  refine sk_S.roald (dd DX6_speak 41 rfl) rfl (j := 25) ⟨by decide, by decide, by decide⟩ rfl ?_
  refine sk_S.istore (i := 6) (dd DX6_speak 42 rfl) (Nat.le_of_ble_eq_true rfl) rfl ?_
  refine sk_S.aload_n (i := 0) (dd DX6_speak 43 rfl) rfl rfl ?_
  refine sk_S.geti (dd DX6_speak 44 rfl) rfl fX6_29 se_4 (by decide) rfl ?_
  refine sk_S.bipush (v := 30) (dd DX6_speak 45 rfl) (by decide) ?_
  refine sk_S.icmp_ge (tgt := 110) (dd DX6_speak 46 rfl) (by decide) (fun c86 => absurd c86 (by rw [hV.2.2.2.2]; exact nI_ge (b := 30) (by omega) (by decide))) (fun c86 => ?_)
  refine sk_S.aload_n (i := 0) (dd DX6_speak 47 rfl) rfl rfl ?_
  refine sk_S.getr (dd DX6_speak 48 rfl) rfl fX6_9 se_4 (by decide) rfl ?_
  refine sk_S.aload_n (i := 0) (dd DX6_speak 49 rfl) rfl rfl ?_
  refine sk_S.geti (dd DX6_speak 50 rfl) rfl fX6_29 se_4 (by decide) rfl ?_
  refine sk_S.iload (i := 6) (dd DX6_speak 51 rfl) rfl ?_
  refine sk_S.iast (dd DX6_speak 52 rfl) se_17 (sk_ix_nI (k := n) hV.2.2.2.2 (by omega) (by decide)) ?_
  refine sk_S.aload_n (i := 0) (dd DX6_speak 53 rfl) rfl rfl ?_
  refine sk_S.dup (dd DX6_speak 54 rfl) rfl ?_
  refine sk_S.geti (dd DX6_speak 55 rfl) rfl fX6_29 se_4 (by decide) rfl ?_
  refine sk_S.iconst (v := 1) (dd DX6_speak 56 rfl) (by decide) ?_
  refine sk_S.iadd (dd DX6_speak 57 rfl) ?_
  refine sk_S.putf (dd DX6_speak 58 rfl) rfl pX6_29 se_4 (by decide) rfl rfl rfl ?_
  have xp := pshC (b := 71) hV.2.2.2.2 hV.2.2.2.1
  have hV2 := hV.up xp
  refine sk_S.aload_n (i := 0) (dd DX6_speak 59 rfl) rfl rfl ?_
  refine sk_S.iload (i := 6) (dd DX6_speak 60 rfl) rfl ?_
  refine sk_S.gets (dd DX6_speak 61 rfl) rfl gsX6_43 ?_
  refine sk_S.iload (i := 5) (dd DX6_speak 62 rfl) rfl ?_
  refine sk_S.roald (dd DX6_speak 63 rfl) rfl (j := 6) ⟨by decide, by decide, by decide⟩ rfl ?_
  refine sk_S.iload_n (i := 3) (dd DX6_speak 64 rfl) rfl rfl ?_
  refine sk_S.iload (i := 4) (dd DX6_speak 65 rfl) rfl ?_
  refine sk_S.iconst (v := 1) (dd DX6_speak 66 rfl) (by decide) ?_
  refine sk_S.iadd (dd DX6_speak 67 rfl) ?_
  refine sk_S.V (nI (dep + 1)) (nI_1 dep) ?_
  refine sk_S.callV (dd DX6_speak 68 rfl) rfl kX6_46 (cV_sy_6_6_1 (by simp only [List.length_cons, List.length_nil]; omega) (by omega) hV2) se_4 (by decide) rfl rfl rfl rfl (Nat.le_of_ble_eq_true rfl) (fun r124 h124 q124 => ?_)
  obtain ⟨x124, rfl⟩ := q124
  show sk_S _ _ _ _ _ _ (.int _ :: _) _ _
  refine sk_S.iret (dd DX6_speak 69 rfl) rfl rfl ?_
  exact ⟨xp.tr x124, rfl⟩
set_option maxRecDepth 100000 in
set_option maxHeartbeats 1000000 in
theorem cV_sy_6_6_2 {l : Launch} {E : sk_V} {d : Nat} {h : sk_M} {m x : Int32} {t n dep : Nat} (hn : n + 3 ≤ 30) (hd : dep + 3 ≤ 30) (hV : voI h 6 m t n) : sk_K l E (d + 10) MX6_say [.ref 4, .int 12, .int (-1), .int x, .int (nI dep)] h (fun r h1 => tcQ h h1 n [71, 11, 70] 0 ∧ some (.int ((((9 : Int32) * 2) + m) - m)) = r) := by
  refine sk_K.of (by decide +kernel) (Nat.le_of_ble_eq_true rfl) ?_
  show sk_S l E (d + 10) _ 0 [some (.ref 4), some (.int 12), some (.int (-1)), some (.int x), some (.int (nI dep))] [] h _
  refine sk_S.iload_n (i := 1) (dd DX6_say_p1 0 rfl) rfl rfl ?_
  · refine sk_S.lookup (off := 129) (dd DX6_say_p1 1 rfl) (by decide) (by decide) (tgt := 130) (by decide) ?_
    refine sk_S.aload_n (i := 0) (dd DX6_say_p1 17 rfl) rfl rfl ?_
    refine sk_S.aload_n (i := 0) (dd DX6_say_p1 18 rfl) rfl rfl ?_
    refine sk_S.geti (dd DX6_say_p1 19 rfl) rfl fX6_21 se_4 (by decide) rfl ?_
    refine sk_S.V 6 hV.1 ?_
    refine sk_S.iconst (v := 1) (dd DX6_say_p1 20 rfl) (by decide) ?_
    refine sk_S.iload_n (i := 3) (dd DX6_say_p1 21 rfl) rfl rfl ?_
    refine sk_S.iload (i := 4) (dd DX6_say_p1 22 rfl) rfl ?_
    refine sk_S.callV (dd DX6_say_p1 23 rfl) rfl kX6_36 (cV_sp_6_6_1 (x := x) (by omega) (by omega) hV) se_4 (by decide) rfl rfl rfl rfl (Nat.le_of_ble_eq_true rfl) (fun r139 h139 q139 => ?_)
    obtain ⟨x139, rfl⟩ := q139
    show sk_S _ _ _ _ _ _ (.int _ :: _) _ _
    refine sk_S.aload_n (i := 0) (dd DX6_say_p1 24 rfl) rfl rfl ?_
    refine sk_S.geti (dd DX6_say_p1 25 rfl) rfl fX6_25 se_4 (by decide) rfl ?_
    refine sk_S.V m ((x139.2.2.2.1 5 (by decide) (by decide)).trans hV.2.2.1) ?_
    refine sk_S.isub (dd DX6_say_p1 26 rfl) ?_
    refine sk_S.iret (dd DX6_say_p1 27 rfl) rfl rfl ?_
    exact ⟨x139, rfl⟩
set_option maxRecDepth 100000 in
set_option maxHeartbeats 1000000 in
theorem cV_sp_6_6_2 {l : Launch} {E : sk_V} {d : Nat} {h : sk_M} {m x : Int32} {t n dep : Nat} (hn : n + 4 ≤ 30) (hd : dep + 4 ≤ 30) (hV : voI h 6 m t n) : sk_K l E (d + 11) MX6_speak [.ref 4, .int 6, .int 2, .int x, .int (nI dep)] h (fun r h1 => tcQ h h1 n [12, 71, 11, 70] 0 ∧ some (.int ((((9 : Int32) * 2) + m) - m)) = r) := by
  refine sk_K.of (by decide +kernel) (Nat.le_of_ble_eq_true rfl) ?_
  show sk_S l E (d + 11) _ 0 [some (.ref 4), some (.int 6), some (.int 2), some (.int x), some (.int (nI dep)), none, none] [] h _
  refine sk_S.aload_n (i := 0) (dd DX6_speak 0 rfl) rfl rfl ?_
  refine sk_S.geti (dd DX6_speak 1 rfl) rfl fX6_32 se_4 (by decide) rfl ?_
  refine sk_S.if_eq (tgt := 9) (dd DX6_speak 2 rfl) (by decide) (fun c4 => ?_) (fun c4 => absurd hV.2.2.2.1 c4)
  refine sk_S.iload_n (i := 1) (dd DX6_speak 5 rfl) rfl rfl ?_
  refine sk_S.istore (i := 5) (dd DX6_speak 6 rfl) (Nat.le_of_ble_eq_true rfl) rfl ?_
  refine sk_S.iconst (v := 0) (dd DX6_speak 7 rfl) (by decide) ?_
  refine sk_S.istore (i := 6) (dd DX6_speak 8 rfl) (Nat.le_of_ble_eq_true rfl) rfl ?_
  refine sk_S.iload (i := 6) (dd DX6_speak 9 rfl) rfl ?_
  refine sk_S.bipush (v := 7) (dd DX6_speak 10 rfl) (by decide) ?_
  refine sk_S.icmp_ge (tgt := 54) (dd DX6_speak 11 rfl) (by decide) (fun c19 => absurd c19 (by decide)) (fun c19 => ?_)
  refine sk_S.iload (i := 5) (dd DX6_speak 12 rfl) rfl ?_
  refine sk_S.if_le (tgt := 54) (dd DX6_speak 13 rfl) (by decide) (fun c24 => absurd c24 (by decide)) (fun c24 => ?_)
  refine sk_S.gets (dd DX6_speak 14 rfl) rfl gsX6_40 ?_
  refine sk_S.iload (i := 5) (dd DX6_speak 15 rfl) rfl ?_
  refine sk_S.iconst (v := 4) (dd DX6_speak 16 rfl) (by decide) ?_
  refine sk_S.imul (dd DX6_speak 17 rfl) ?_
  refine sk_S.iload_n (i := 2) (dd DX6_speak 18 rfl) rfl rfl ?_
  refine sk_S.iadd (dd DX6_speak 19 rfl) ?_
  refine sk_S.roald (dd DX6_speak 20 rfl) rfl (j := 26) ⟨by decide, by decide, by decide⟩ rfl ?_
  refine sk_S.if_ne (tgt := 54) (dd DX6_speak 21 rfl) (by decide) (fun c37 => absurd (by decide) c37) (fun c37 => ?_)
  refine sk_S.gets (dd DX6_speak 22 rfl) rfl gsX6_43 ?_
  refine sk_S.iload (i := 5) (dd DX6_speak 23 rfl) rfl ?_
  refine sk_S.roald (dd DX6_speak 24 rfl) rfl (j := 6) ⟨by decide, by decide, by decide⟩ rfl ?_
  refine sk_S.istore (i := 5) (dd DX6_speak 25 rfl) (Nat.le_of_ble_eq_true rfl) rfl ?_
  refine sk_S.iinc (i := 6) (v := _ + 1) (dd DX6_speak 26 rfl) rfl rfl rfl ?_
  refine sk_S.goto (tgt := 15) (dd DX6_speak 27 rfl) (by decide) ?_
  refine sk_S.iload (i := 6) (dd DX6_speak 9 rfl) rfl ?_
  refine sk_S.bipush (v := 7) (dd DX6_speak 10 rfl) (by decide) ?_
  refine sk_S.icmp_ge (tgt := 54) (dd DX6_speak 11 rfl) (by decide) (fun c19 => absurd c19 (by decide)) (fun c19 => ?_)
  refine sk_S.iload (i := 5) (dd DX6_speak 12 rfl) rfl ?_
  refine sk_S.if_le (tgt := 54) (dd DX6_speak 13 rfl) (by decide) (fun c24 => ?_) (fun c24 => absurd (by decide) c24)
  refine sk_S.iload (i := 5) (dd DX6_speak 28 rfl) rfl ?_
  refine sk_S.if_lt (tgt := 66) (dd DX6_speak 29 rfl) (by decide) (fun c56 => absurd c56 (by decide)) (fun c56 => ?_)
  refine sk_S.iload (i := 4) (dd DX6_speak 30 rfl) rfl ?_
  refine sk_S.bipush (v := 30) (dd DX6_speak 31 rfl) (by decide) ?_
  refine sk_S.icmp_le (tgt := 68) (dd DX6_speak 32 rfl) (by decide) (fun c63 => ?_) (fun c63 => absurd (nI_le (b := 30) (by omega) (by decide)) c63)
  refine sk_S.gets (dd DX6_speak 35 rfl) rfl gsX6_40 ?_
  refine sk_S.iload (i := 5) (dd DX6_speak 36 rfl) rfl ?_
  refine sk_S.iconst (v := 4) (dd DX6_speak 37 rfl) (by decide) ?_
  refine sk_S.imul (dd DX6_speak 38 rfl) ?_
  refine sk_S.iload_n (i := 2) (dd DX6_speak 39 rfl) rfl rfl ?_
  refine sk_S.iadd (dd DX6_speak 40 rfl) ?_
  refine sk_S.roald (dd DX6_speak 41 rfl) rfl (j := 2) ⟨by decide, by decide, by decide⟩ rfl ?_
  refine sk_S.istore (i := 6) (dd DX6_speak 42 rfl) (Nat.le_of_ble_eq_true rfl) rfl ?_
  refine sk_S.aload_n (i := 0) (dd DX6_speak 43 rfl) rfl rfl ?_
  refine sk_S.geti (dd DX6_speak 44 rfl) rfl fX6_29 se_4 (by decide) rfl ?_
  refine sk_S.bipush (v := 30) (dd DX6_speak 45 rfl) (by decide) ?_
  refine sk_S.icmp_ge (tgt := 110) (dd DX6_speak 46 rfl) (by decide) (fun c86 => absurd c86 (by rw [hV.2.2.2.2]; exact nI_ge (b := 30) (by omega) (by decide))) (fun c86 => ?_)
  refine sk_S.aload_n (i := 0) (dd DX6_speak 47 rfl) rfl rfl ?_
  refine sk_S.getr (dd DX6_speak 48 rfl) rfl fX6_9 se_4 (by decide) rfl ?_
  refine sk_S.aload_n (i := 0) (dd DX6_speak 49 rfl) rfl rfl ?_
  refine sk_S.geti (dd DX6_speak 50 rfl) rfl fX6_29 se_4 (by decide) rfl ?_
  refine sk_S.iload (i := 6) (dd DX6_speak 51 rfl) rfl ?_
  refine sk_S.iast (dd DX6_speak 52 rfl) se_17 (sk_ix_nI (k := n) hV.2.2.2.2 (by omega) (by decide)) ?_
  refine sk_S.aload_n (i := 0) (dd DX6_speak 53 rfl) rfl rfl ?_
  refine sk_S.dup (dd DX6_speak 54 rfl) rfl ?_
  refine sk_S.geti (dd DX6_speak 55 rfl) rfl fX6_29 se_4 (by decide) rfl ?_
  refine sk_S.iconst (v := 1) (dd DX6_speak 56 rfl) (by decide) ?_
  refine sk_S.iadd (dd DX6_speak 57 rfl) ?_
  refine sk_S.putf (dd DX6_speak 58 rfl) rfl pX6_29 se_4 (by decide) rfl rfl rfl ?_
  have xp := pshC (b := 12) hV.2.2.2.2 hV.2.2.2.1
  have hV2 := hV.up xp
  refine sk_S.aload_n (i := 0) (dd DX6_speak 59 rfl) rfl rfl ?_
  refine sk_S.iload (i := 6) (dd DX6_speak 60 rfl) rfl ?_
  refine sk_S.gets (dd DX6_speak 61 rfl) rfl gsX6_43 ?_
  refine sk_S.iload (i := 5) (dd DX6_speak 62 rfl) rfl ?_
  refine sk_S.roald (dd DX6_speak 63 rfl) rfl (j := 0) ⟨by decide, by decide, by decide⟩ rfl ?_
  refine sk_S.iload_n (i := 3) (dd DX6_speak 64 rfl) rfl rfl ?_
  refine sk_S.iload (i := 4) (dd DX6_speak 65 rfl) rfl ?_
  refine sk_S.iconst (v := 1) (dd DX6_speak 66 rfl) (by decide) ?_
  refine sk_S.iadd (dd DX6_speak 67 rfl) ?_
  refine sk_S.V (nI (dep + 1)) (nI_1 dep) ?_
  refine sk_S.callV (dd DX6_speak 68 rfl) rfl kX6_46 (cV_sy_6_6_2 (by simp only [List.length_cons, List.length_nil]; omega) (by omega) hV2) se_4 (by decide) rfl rfl rfl rfl (Nat.le_of_ble_eq_true rfl) (fun r124 h124 q124 => ?_)
  obtain ⟨x124, rfl⟩ := q124
  show sk_S _ _ _ _ _ _ (.int _ :: _) _ _
  refine sk_S.iret (dd DX6_speak 69 rfl) rfl rfl ?_
  exact ⟨xp.tr x124, rfl⟩
set_option maxRecDepth 100000 in
set_option maxHeartbeats 1000000 in
theorem cV_sy_6_6_3 {l : Launch} {E : sk_V} {d : Nat} {h : sk_M} {m x : Int32} {t n dep : Nat} (hn : n + 0 ≤ 30) (hd : dep + 0 ≤ 30) (hV : voI h 6 m t n) (hp : ¬ m - nI t = 0) : sk_K l E (d + 2) MX6_say [.ref 4, .int 13, .int (-1), .int x, .int (nI dep)] h (fun r h1 => tcQ h h1 n [] 0 ∧ some (.int (x / (m - nI t))) = r) := by
  refine sk_K.of (by decide +kernel) (Nat.le_of_ble_eq_true rfl) ?_
  show sk_S l E (d + 2) _ 0 [some (.ref 4), some (.int 13), some (.int (-1)), some (.int x), some (.int (nI dep))] [] h _
  refine sk_S.iload_n (i := 1) (dd DX6_say_p1 0 rfl) rfl rfl ?_
  · refine sk_S.lookup (off := 147) (dd DX6_say_p1 1 rfl) (by decide) (by decide) (tgt := 148) (by decide) ?_
    refine sk_S.aload_n (i := 0) (dd DX6_say_p1 28 rfl) rfl rfl ?_
    refine sk_S.iload_n (i := 3) (dd DX6_say_p1 29 rfl) rfl rfl ?_
    refine sk_S.callV (dd DX6_say_p1 30 rfl) rfl kX6_49 (cV_part hV hp) se_4 (by decide) rfl rfl rfl rfl (Nat.le_of_ble_eq_true rfl) (fun r150 h150 q150 => ?_)
    obtain ⟨x150, rfl⟩ := q150
    show sk_S _ _ _ _ _ _ (.int _ :: _) _ _
    refine sk_S.iret (dd DX6_say_p1 31 rfl) rfl rfl ?_
    exact ⟨x150, rfl⟩
set_option maxRecDepth 100000 in
set_option maxHeartbeats 1000000 in
theorem cV_sp_6_6_3 {l : Launch} {E : sk_V} {d : Nat} {h : sk_M} {m x : Int32} {t n dep : Nat} (hn : n + 1 ≤ 30) (hd : dep + 1 ≤ 30) (hV : voI h 6 m t n) (hp : ¬ m - nI t = 0) : sk_K l E (d + 3) MX6_speak [.ref 4, .int 6, .int 3, .int x, .int (nI dep)] h (fun r h1 => tcQ h h1 n [13] 0 ∧ some (.int (x / (m - nI t))) = r) := by
  refine sk_K.of (by decide +kernel) (Nat.le_of_ble_eq_true rfl) ?_
  show sk_S l E (d + 3) _ 0 [some (.ref 4), some (.int 6), some (.int 3), some (.int x), some (.int (nI dep)), none, none] [] h _
  refine sk_S.aload_n (i := 0) (dd DX6_speak 0 rfl) rfl rfl ?_
  refine sk_S.geti (dd DX6_speak 1 rfl) rfl fX6_32 se_4 (by decide) rfl ?_
  refine sk_S.if_eq (tgt := 9) (dd DX6_speak 2 rfl) (by decide) (fun c4 => ?_) (fun c4 => absurd hV.2.2.2.1 c4)
  refine sk_S.iload_n (i := 1) (dd DX6_speak 5 rfl) rfl rfl ?_
  refine sk_S.istore (i := 5) (dd DX6_speak 6 rfl) (Nat.le_of_ble_eq_true rfl) rfl ?_
  refine sk_S.iconst (v := 0) (dd DX6_speak 7 rfl) (by decide) ?_
  refine sk_S.istore (i := 6) (dd DX6_speak 8 rfl) (Nat.le_of_ble_eq_true rfl) rfl ?_
  refine sk_S.iload (i := 6) (dd DX6_speak 9 rfl) rfl ?_
  refine sk_S.bipush (v := 7) (dd DX6_speak 10 rfl) (by decide) ?_
  refine sk_S.icmp_ge (tgt := 54) (dd DX6_speak 11 rfl) (by decide) (fun c19 => absurd c19 (by decide)) (fun c19 => ?_)
  refine sk_S.iload (i := 5) (dd DX6_speak 12 rfl) rfl ?_
  refine sk_S.if_le (tgt := 54) (dd DX6_speak 13 rfl) (by decide) (fun c24 => absurd c24 (by decide)) (fun c24 => ?_)
  refine sk_S.gets (dd DX6_speak 14 rfl) rfl gsX6_40 ?_
  refine sk_S.iload (i := 5) (dd DX6_speak 15 rfl) rfl ?_
  refine sk_S.iconst (v := 4) (dd DX6_speak 16 rfl) (by decide) ?_
  refine sk_S.imul (dd DX6_speak 17 rfl) ?_
  refine sk_S.iload_n (i := 2) (dd DX6_speak 18 rfl) rfl rfl ?_
  refine sk_S.iadd (dd DX6_speak 19 rfl) ?_
  refine sk_S.roald (dd DX6_speak 20 rfl) rfl (j := 27) ⟨by decide, by decide, by decide⟩ rfl ?_
  refine sk_S.if_ne (tgt := 54) (dd DX6_speak 21 rfl) (by decide) (fun c37 => absurd (by decide) c37) (fun c37 => ?_)
  refine sk_S.gets (dd DX6_speak 22 rfl) rfl gsX6_43 ?_
  refine sk_S.iload (i := 5) (dd DX6_speak 23 rfl) rfl ?_
  refine sk_S.roald (dd DX6_speak 24 rfl) rfl (j := 6) ⟨by decide, by decide, by decide⟩ rfl ?_
  refine sk_S.istore (i := 5) (dd DX6_speak 25 rfl) (Nat.le_of_ble_eq_true rfl) rfl ?_
  refine sk_S.iinc (i := 6) (v := _ + 1) (dd DX6_speak 26 rfl) rfl rfl rfl ?_
  refine sk_S.goto (tgt := 15) (dd DX6_speak 27 rfl) (by decide) ?_
  refine sk_S.iload (i := 6) (dd DX6_speak 9 rfl) rfl ?_
  refine sk_S.bipush (v := 7) (dd DX6_speak 10 rfl) (by decide) ?_
  refine sk_S.icmp_ge (tgt := 54) (dd DX6_speak 11 rfl) (by decide) (fun c19 => absurd c19 (by decide)) (fun c19 => ?_)
  refine sk_S.iload (i := 5) (dd DX6_speak 12 rfl) rfl ?_
  refine sk_S.if_le (tgt := 54) (dd DX6_speak 13 rfl) (by decide) (fun c24 => ?_) (fun c24 => absurd (by decide) c24)
  refine sk_S.iload (i := 5) (dd DX6_speak 28 rfl) rfl ?_
  refine sk_S.if_lt (tgt := 66) (dd DX6_speak 29 rfl) (by decide) (fun c56 => absurd c56 (by decide)) (fun c56 => ?_)
  refine sk_S.iload (i := 4) (dd DX6_speak 30 rfl) rfl ?_
  refine sk_S.bipush (v := 30) (dd DX6_speak 31 rfl) (by decide) ?_
  refine sk_S.icmp_le (tgt := 68) (dd DX6_speak 32 rfl) (by decide) (fun c63 => ?_) (fun c63 => absurd (nI_le (b := 30) (by omega) (by decide)) c63)
  refine sk_S.gets (dd DX6_speak 35 rfl) rfl gsX6_40 ?_
  refine sk_S.iload (i := 5) (dd DX6_speak 36 rfl) rfl ?_
  refine sk_S.iconst (v := 4) (dd DX6_speak 37 rfl) (by decide) ?_
  refine sk_S.imul (dd DX6_speak 38 rfl) ?_
  refine sk_S.iload_n (i := 2) (dd DX6_speak 39 rfl) rfl rfl ?_
  refine sk_S.iadd (dd DX6_speak 40 rfl) ?_
  refine sk_S.roald (dd DX6_speak 41 rfl) rfl (j := 3) ⟨by decide, by decide, by decide⟩ rfl ?_
  refine sk_S.istore (i := 6) (dd DX6_speak 42 rfl) (Nat.le_of_ble_eq_true rfl) rfl ?_
  refine sk_S.aload_n (i := 0) (dd DX6_speak 43 rfl) rfl rfl ?_
  refine sk_S.geti (dd DX6_speak 44 rfl) rfl fX6_29 se_4 (by decide) rfl ?_
  refine sk_S.bipush (v := 30) (dd DX6_speak 45 rfl) (by decide) ?_
  refine sk_S.icmp_ge (tgt := 110) (dd DX6_speak 46 rfl) (by decide) (fun c86 => absurd c86 (by rw [hV.2.2.2.2]; exact nI_ge (b := 30) (by omega) (by decide))) (fun c86 => ?_)
  refine sk_S.aload_n (i := 0) (dd DX6_speak 47 rfl) rfl rfl ?_
  refine sk_S.getr (dd DX6_speak 48 rfl) rfl fX6_9 se_4 (by decide) rfl ?_
  refine sk_S.aload_n (i := 0) (dd DX6_speak 49 rfl) rfl rfl ?_
  refine sk_S.geti (dd DX6_speak 50 rfl) rfl fX6_29 se_4 (by decide) rfl ?_
  refine sk_S.iload (i := 6) (dd DX6_speak 51 rfl) rfl ?_
  refine sk_S.iast (dd DX6_speak 52 rfl) se_17 (sk_ix_nI (k := n) hV.2.2.2.2 (by omega) (by decide)) ?_
  refine sk_S.aload_n (i := 0) (dd DX6_speak 53 rfl) rfl rfl ?_
  refine sk_S.dup (dd DX6_speak 54 rfl) rfl ?_
  refine sk_S.geti (dd DX6_speak 55 rfl) rfl fX6_29 se_4 (by decide) rfl ?_
  refine sk_S.iconst (v := 1) (dd DX6_speak 56 rfl) (by decide) ?_
  refine sk_S.iadd (dd DX6_speak 57 rfl) ?_
  refine sk_S.putf (dd DX6_speak 58 rfl) rfl pX6_29 se_4 (by decide) rfl rfl rfl ?_
  have xp := pshC (b := 13) hV.2.2.2.2 hV.2.2.2.1
  have hV2 := hV.up xp
  refine sk_S.aload_n (i := 0) (dd DX6_speak 59 rfl) rfl rfl ?_
  refine sk_S.iload (i := 6) (dd DX6_speak 60 rfl) rfl ?_
  refine sk_S.gets (dd DX6_speak 61 rfl) rfl gsX6_43 ?_
  refine sk_S.iload (i := 5) (dd DX6_speak 62 rfl) rfl ?_
  refine sk_S.roald (dd DX6_speak 63 rfl) rfl (j := 0) ⟨by decide, by decide, by decide⟩ rfl ?_
  refine sk_S.iload_n (i := 3) (dd DX6_speak 64 rfl) rfl rfl ?_
  refine sk_S.iload (i := 4) (dd DX6_speak 65 rfl) rfl ?_
  refine sk_S.iconst (v := 1) (dd DX6_speak 66 rfl) (by decide) ?_
  refine sk_S.iadd (dd DX6_speak 67 rfl) ?_
  refine sk_S.V (nI (dep + 1)) (nI_1 dep) ?_
  refine sk_S.callV (dd DX6_speak 68 rfl) rfl kX6_46 (cV_sy_6_6_3 (by simp only [List.length_cons, List.length_nil]; omega) (by omega) hV2 hp) se_4 (by decide) rfl rfl rfl rfl (Nat.le_of_ble_eq_true rfl) (fun r124 h124 q124 => ?_)
  obtain ⟨x124, rfl⟩ := q124
  show sk_S _ _ _ _ _ _ (.int _ :: _) _ _
  refine sk_S.iret (dd DX6_speak 69 rfl) rfl rfl ?_
  exact ⟨xp.tr x124, rfl⟩
set_option maxRecDepth 100000 in
set_option maxHeartbeats 1000000 in
theorem cV_sy_6_6_3p {l : Launch} {E : sk_V} {d : Nat} {h : sk_M} {m x : Int32} {t n dep : Nat} (hn : n + 0 ≤ 30) (hd : dep + 0 ≤ 30) (hV : voI h 6 m t n) (hp : m - nI t = 0) : sk_K l E (d + 2) MX6_say [.ref 4, .int 13, .int (-1), .int x, .int (nI dep)] h (fun r h1 => tcQ h h1 n [] 1 ∧ some (.int (0 : Int32)) = r) := by
  refine sk_K.of (by decide +kernel) (Nat.le_of_ble_eq_true rfl) ?_
  show sk_S l E (d + 2) _ 0 [some (.ref 4), some (.int 13), some (.int (-1)), some (.int x), some (.int (nI dep))] [] h _
  refine sk_S.iload_n (i := 1) (dd DX6_say_p1 0 rfl) rfl rfl ?_
  · refine sk_S.lookup (off := 147) (dd DX6_say_p1 1 rfl) (by decide) (by decide) (tgt := 148) (by decide) ?_
    refine sk_S.aload_n (i := 0) (dd DX6_say_p1 28 rfl) rfl rfl ?_
    refine sk_S.iload_n (i := 3) (dd DX6_say_p1 29 rfl) rfl rfl ?_
    refine sk_S.callV (dd DX6_say_p1 30 rfl) rfl kX6_49 (cV_partP hV hp) se_4 (by decide) rfl rfl rfl rfl (Nat.le_of_ble_eq_true rfl) (fun r150 h150 q150 => ?_)
    obtain ⟨x150, rfl⟩ := q150
    show sk_S _ _ _ _ _ _ (.int _ :: _) _ _
    refine sk_S.iret (dd DX6_say_p1 31 rfl) rfl rfl ?_
    exact ⟨x150, rfl⟩
set_option maxRecDepth 100000 in
set_option maxHeartbeats 1000000 in
theorem cV_sp_6_6_3p {l : Launch} {E : sk_V} {d : Nat} {h : sk_M} {m x : Int32} {t n dep : Nat} (hn : n + 1 ≤ 30) (hd : dep + 1 ≤ 30) (hV : voI h 6 m t n) (hp : m - nI t = 0) : sk_K l E (d + 3) MX6_speak [.ref 4, .int 6, .int 3, .int x, .int (nI dep)] h (fun r h1 => tcQ h h1 n [13] 1 ∧ some (.int (0 : Int32)) = r) := by
  refine sk_K.of (by decide +kernel) (Nat.le_of_ble_eq_true rfl) ?_
  show sk_S l E (d + 3) _ 0 [some (.ref 4), some (.int 6), some (.int 3), some (.int x), some (.int (nI dep)), none, none] [] h _
  refine sk_S.aload_n (i := 0) (dd DX6_speak 0 rfl) rfl rfl ?_
  refine sk_S.geti (dd DX6_speak 1 rfl) rfl fX6_32 se_4 (by decide) rfl ?_
  refine sk_S.if_eq (tgt := 9) (dd DX6_speak 2 rfl) (by decide) (fun c4 => ?_) (fun c4 => absurd hV.2.2.2.1 c4)
  refine sk_S.iload_n (i := 1) (dd DX6_speak 5 rfl) rfl rfl ?_
  refine sk_S.istore (i := 5) (dd DX6_speak 6 rfl) (Nat.le_of_ble_eq_true rfl) rfl ?_
  refine sk_S.iconst (v := 0) (dd DX6_speak 7 rfl) (by decide) ?_
  refine sk_S.istore (i := 6) (dd DX6_speak 8 rfl) (Nat.le_of_ble_eq_true rfl) rfl ?_
  refine sk_S.iload (i := 6) (dd DX6_speak 9 rfl) rfl ?_
  refine sk_S.bipush (v := 7) (dd DX6_speak 10 rfl) (by decide) ?_
  refine sk_S.icmp_ge (tgt := 54) (dd DX6_speak 11 rfl) (by decide) (fun c19 => absurd c19 (by decide)) (fun c19 => ?_)
  refine sk_S.iload (i := 5) (dd DX6_speak 12 rfl) rfl ?_
  refine sk_S.if_le (tgt := 54) (dd DX6_speak 13 rfl) (by decide) (fun c24 => absurd c24 (by decide)) (fun c24 => ?_)
  refine sk_S.gets (dd DX6_speak 14 rfl) rfl gsX6_40 ?_
  refine sk_S.iload (i := 5) (dd DX6_speak 15 rfl) rfl ?_
  refine sk_S.iconst (v := 4) (dd DX6_speak 16 rfl) (by decide) ?_
  refine sk_S.imul (dd DX6_speak 17 rfl) ?_
  refine sk_S.iload_n (i := 2) (dd DX6_speak 18 rfl) rfl rfl ?_
  refine sk_S.iadd (dd DX6_speak 19 rfl) ?_
  refine sk_S.roald (dd DX6_speak 20 rfl) rfl (j := 27) ⟨by decide, by decide, by decide⟩ rfl ?_
  refine sk_S.if_ne (tgt := 54) (dd DX6_speak 21 rfl) (by decide) (fun c37 => absurd (by decide) c37) (fun c37 => ?_)
  refine sk_S.gets (dd DX6_speak 22 rfl) rfl gsX6_43 ?_
  refine sk_S.iload (i := 5) (dd DX6_speak 23 rfl) rfl ?_
  refine sk_S.roald (dd DX6_speak 24 rfl) rfl (j := 6) ⟨by decide, by decide, by decide⟩ rfl ?_
  refine sk_S.istore (i := 5) (dd DX6_speak 25 rfl) (Nat.le_of_ble_eq_true rfl) rfl ?_
  refine sk_S.iinc (i := 6) (v := _ + 1) (dd DX6_speak 26 rfl) rfl rfl rfl ?_
  refine sk_S.goto (tgt := 15) (dd DX6_speak 27 rfl) (by decide) ?_
  refine sk_S.iload (i := 6) (dd DX6_speak 9 rfl) rfl ?_
  refine sk_S.bipush (v := 7) (dd DX6_speak 10 rfl) (by decide) ?_
  refine sk_S.icmp_ge (tgt := 54) (dd DX6_speak 11 rfl) (by decide) (fun c19 => absurd c19 (by decide)) (fun c19 => ?_)
  refine sk_S.iload (i := 5) (dd DX6_speak 12 rfl) rfl ?_
  refine sk_S.if_le (tgt := 54) (dd DX6_speak 13 rfl) (by decide) (fun c24 => ?_) (fun c24 => absurd (by decide) c24)
  refine sk_S.iload (i := 5) (dd DX6_speak 28 rfl) rfl ?_
  refine sk_S.if_lt (tgt := 66) (dd DX6_speak 29 rfl) (by decide) (fun c56 => absurd c56 (by decide)) (fun c56 => ?_)
  refine sk_S.iload (i := 4) (dd DX6_speak 30 rfl) rfl ?_
  refine sk_S.bipush (v := 30) (dd DX6_speak 31 rfl) (by decide) ?_
  refine sk_S.icmp_le (tgt := 68) (dd DX6_speak 32 rfl) (by decide) (fun c63 => ?_) (fun c63 => absurd (nI_le (b := 30) (by omega) (by decide)) c63)
  refine sk_S.gets (dd DX6_speak 35 rfl) rfl gsX6_40 ?_
  refine sk_S.iload (i := 5) (dd DX6_speak 36 rfl) rfl ?_
  refine sk_S.iconst (v := 4) (dd DX6_speak 37 rfl) (by decide) ?_
  refine sk_S.imul (dd DX6_speak 38 rfl) ?_
  refine sk_S.iload_n (i := 2) (dd DX6_speak 39 rfl) rfl rfl ?_
  refine sk_S.iadd (dd DX6_speak 40 rfl) ?_
  refine sk_S.roald (dd DX6_speak 41 rfl) rfl (j := 3) ⟨by decide, by decide, by decide⟩ rfl ?_
  refine sk_S.istore (i := 6) (dd DX6_speak 42 rfl) (Nat.le_of_ble_eq_true rfl) rfl ?_
  refine sk_S.aload_n (i := 0) (dd DX6_speak 43 rfl) rfl rfl ?_
  refine sk_S.geti (dd DX6_speak 44 rfl) rfl fX6_29 se_4 (by decide) rfl ?_
  refine sk_S.bipush (v := 30) (dd DX6_speak 45 rfl) (by decide) ?_
  refine sk_S.icmp_ge (tgt := 110) (dd DX6_speak 46 rfl) (by decide) (fun c86 => absurd c86 (by rw [hV.2.2.2.2]; exact nI_ge (b := 30) (by omega) (by decide))) (fun c86 => ?_)
  refine sk_S.aload_n (i := 0) (dd DX6_speak 47 rfl) rfl rfl ?_
  refine sk_S.getr (dd DX6_speak 48 rfl) rfl fX6_9 se_4 (by decide) rfl ?_
  refine sk_S.aload_n (i := 0) (dd DX6_speak 49 rfl) rfl rfl ?_
  refine sk_S.geti (dd DX6_speak 50 rfl) rfl fX6_29 se_4 (by decide) rfl ?_
  refine sk_S.iload (i := 6) (dd DX6_speak 51 rfl) rfl ?_
  refine sk_S.iast (dd DX6_speak 52 rfl) se_17 (sk_ix_nI (k := n) hV.2.2.2.2 (by omega) (by decide)) ?_
  refine sk_S.aload_n (i := 0) (dd DX6_speak 53 rfl) rfl rfl ?_
  refine sk_S.dup (dd DX6_speak 54 rfl) rfl ?_
  refine sk_S.geti (dd DX6_speak 55 rfl) rfl fX6_29 se_4 (by decide) rfl ?_
  refine sk_S.iconst (v := 1) (dd DX6_speak 56 rfl) (by decide) ?_
  refine sk_S.iadd (dd DX6_speak 57 rfl) ?_
  refine sk_S.putf (dd DX6_speak 58 rfl) rfl pX6_29 se_4 (by decide) rfl rfl rfl ?_
  have xp := pshC (b := 13) hV.2.2.2.2 hV.2.2.2.1
  have hV2 := hV.up xp
  refine sk_S.aload_n (i := 0) (dd DX6_speak 59 rfl) rfl rfl ?_
  refine sk_S.iload (i := 6) (dd DX6_speak 60 rfl) rfl ?_
  refine sk_S.gets (dd DX6_speak 61 rfl) rfl gsX6_43 ?_
  refine sk_S.iload (i := 5) (dd DX6_speak 62 rfl) rfl ?_
  refine sk_S.roald (dd DX6_speak 63 rfl) rfl (j := 0) ⟨by decide, by decide, by decide⟩ rfl ?_
  refine sk_S.iload_n (i := 3) (dd DX6_speak 64 rfl) rfl rfl ?_
  refine sk_S.iload (i := 4) (dd DX6_speak 65 rfl) rfl ?_
  refine sk_S.iconst (v := 1) (dd DX6_speak 66 rfl) (by decide) ?_
  refine sk_S.iadd (dd DX6_speak 67 rfl) ?_
  refine sk_S.V (nI (dep + 1)) (nI_1 dep) ?_
  refine sk_S.callV (dd DX6_speak 68 rfl) rfl kX6_46 (cV_sy_6_6_3p (by simp only [List.length_cons, List.length_nil]; omega) (by omega) hV2 hp) se_4 (by decide) rfl rfl rfl rfl (Nat.le_of_ble_eq_true rfl) (fun r124 h124 q124 => ?_)
  obtain ⟨x124, rfl⟩ := q124
  show sk_S _ _ _ _ _ _ (.int _ :: _) _ _
  refine sk_S.iret (dd DX6_speak 69 rfl) rfl rfl ?_
  exact ⟨xp.tr x124, rfl⟩
end C6
