section C7
set_option maxRecDepth 100000 in
set_option maxHeartbeats 1000000 in
theorem cV_he_0_0 {l : Launch} {E : sk_V} {d : Nat} {h : sk_M} {b t : Nat} {m x : Int32} (hb : sk_e b = (1, 0, 3, [])) (hb4 : ¬ b = 4) (e0 : h b 0 = 0) (e1 : h b 1 = m) : sk_K l E (d + 3) MX6_hear [.ref 4, .ref b, .int (nI t), .int 0, .int x] h (fun r h1 => tcV h h1 (voB 0 0 m (nI t)) 0 ∧ some (.int (voV 0 0 m (nI t) x)) = r) := by
  refine sk_K.of (by decide +kernel) (Nat.le_of_ble_eq_true rfl) ?_
  show sk_S l E (d + 3) _ 0 [some (.ref 4), some (.ref b), some (.int (nI t)), some (.int 0), some (.int x)] [] h _
  refine sk_S.aload_n (i := 0) (dd DX6_hear 0 rfl) rfl rfl ?_
  refine sk_S.aload_n (i := 1) (dd DX6_hear 1 rfl) rfl rfl ?_
  refine sk_S.geti (dd DX6_hear 2 rfl) rfl fX6_15 hb (by decide) rfl ?_
  refine sk_S.putf (dd DX6_hear 3 rfl) rfl pX6_21 se_4 (by decide) rfl rfl rfl ?_
  refine sk_S.aload_n (i := 0) (dd DX6_hear 4 rfl) rfl rfl ?_
  refine sk_S.aload_n (i := 1) (dd DX6_hear 5 rfl) rfl rfl ?_
  refine sk_S.geti (dd DX6_hear 6 rfl) rfl fX6_22 hb (by decide) rfl ?_
  refine sk_S.putf (dd DX6_hear 7 rfl) rfl pX6_25 se_4 (by decide) rfl rfl rfl ?_
  refine sk_S.aload_n (i := 0) (dd DX6_hear 8 rfl) rfl rfl ?_
  refine sk_S.iload_n (i := 2) (dd DX6_hear 9 rfl) rfl rfl ?_
  refine sk_S.putf (dd DX6_hear 10 rfl) rfl pX6_26 se_4 (by decide) rfl rfl rfl ?_
  refine sk_S.aload_n (i := 0) (dd DX6_hear 11 rfl) rfl rfl ?_
  refine sk_S.iconst (v := 0) (dd DX6_hear 12 rfl) (by decide) ?_
  refine sk_S.putf (dd DX6_hear 13 rfl) rfl pX6_29 se_4 (by decide) rfl rfl rfl ?_
  refine sk_S.aload_n (i := 0) (dd DX6_hear 14 rfl) rfl rfl ?_
  refine sk_S.iconst (v := 0) (dd DX6_hear 15 rfl) (by decide) ?_
  refine sk_S.putf (dd DX6_hear 16 rfl) rfl pX6_32 se_4 (by decide) rfl rfl rfl ?_
  refine sk_S.aload_n (i := 0) (dd DX6_hear 17 rfl) rfl rfl ?_
  refine sk_S.aload_n (i := 0) (dd DX6_hear 18 rfl) rfl rfl ?_
  refine sk_S.geti (dd DX6_hear 19 rfl) rfl fX6_21 se_4 (by decide) rfl ?_
  refine sk_S.V 0 (by simp [sk_u_at, hb4, e0, e1]) ?_
  refine sk_S.iload_n (i := 3) (dd DX6_hear 20 rfl) rfl rfl ?_
  refine sk_S.iload (i := 4) (dd DX6_hear 21 rfl) rfl ?_
  refine sk_S.iconst (v := 0) (dd DX6_hear 22 rfl) (by decide) ?_
  have hV : voI (sk_u (sk_u (sk_u (sk_u (sk_u h 4 3 (h b 0)) 4 5 (sk_u h 4 3 (h b 0) b 1)) 4 4 (nI t)) 4 1 0) 4 2 0) 0 m t 0 := ⟨by simp [sk_u_at, hb4, e0, e1], by simp [sk_u_at, hb4, e0, e1], by simp [sk_u_at, hb4, e0, e1], by simp [sk_u_at, hb4, e0, e1], by rw [sk_u_at, if_pos rfl, if_neg (by decide), sk_u_at, if_pos rfl, if_pos rfl]; rfl⟩
  refine sk_S.callV (dd DX6_hear 23 rfl) rfl kX6_36 (cV_sp_0_0_0 (dep := 0) (by decide) (by decide) hV) se_4 (by decide) rfl rfl rfl rfl (Nat.le_of_ble_eq_true rfl) (fun r40 h40 q40 => ?_)
  obtain ⟨x40, rfl⟩ := q40
  show sk_S _ _ _ _ _ _ (.int _ :: _) _ _
  refine sk_S.iret (dd DX6_hear 24 rfl) rfl rfl ?_
  refine ⟨?_, ?_⟩
  · have e : voB 0 0 m (nI t) = [10] := by simp [voB, voCb, voPb, voHb, voLb, voRb]
    rw [e]
    exact tcV.of (((((sk_o.rf.u (by decide)).u (by decide)).u (by decide)).u (by decide)).u (by decide)) x40
  · have e : voV 0 0 m (nI t) x = (x + nI t) := by simp [voV, voC, voP, voH, voL, voR]
    rw [e]
set_option maxRecDepth 100000 in
set_option maxHeartbeats 1000000 in
theorem cV_he_0_1 {l : Launch} {E : sk_V} {d : Nat} {h : sk_M} {b t : Nat} {m x : Int32} (hb : sk_e b = (1, 0, 3, [])) (hb4 : ¬ b = 4) (e0 : h b 0 = 0) (e1 : h b 1 = m) : sk_K l E (d + 6) MX6_hear [.ref 4, .ref b, .int (nI t), .int 1, .int x] h (fun r h1 => tcV h h1 (voB 1 0 m (nI t)) 0 ∧ some (.int (voV 1 0 m (nI t) x)) = r) := by
  refine sk_K.of (by decide +kernel) (Nat.le_of_ble_eq_true rfl) ?_
  show sk_S l E (d + 6) _ 0 [some (.ref 4), some (.ref b), some (.int (nI t)), some (.int 1), some (.int x)] [] h _
  refine sk_S.aload_n (i := 0) (dd DX6_hear 0 rfl) rfl rfl ?_
  refine sk_S.aload_n (i := 1) (dd DX6_hear 1 rfl) rfl rfl ?_
  refine sk_S.geti (dd DX6_hear 2 rfl) rfl fX6_15 hb (by decide) rfl ?_
  refine sk_S.putf (dd DX6_hear 3 rfl) rfl pX6_21 se_4 (by decide) rfl rfl rfl ?_
  refine sk_S.aload_n (i := 0) (dd DX6_hear 4 rfl) rfl rfl ?_
  refine sk_S.aload_n (i := 1) (dd DX6_hear 5 rfl) rfl rfl ?_
  refine sk_S.geti (dd DX6_hear 6 rfl) rfl fX6_22 hb (by decide) rfl ?_
  refine sk_S.putf (dd DX6_hear 7 rfl) rfl pX6_25 se_4 (by decide) rfl rfl rfl ?_
  refine sk_S.aload_n (i := 0) (dd DX6_hear 8 rfl) rfl rfl ?_
  refine sk_S.iload_n (i := 2) (dd DX6_hear 9 rfl) rfl rfl ?_
  refine sk_S.putf (dd DX6_hear 10 rfl) rfl pX6_26 se_4 (by decide) rfl rfl rfl ?_
  refine sk_S.aload_n (i := 0) (dd DX6_hear 11 rfl) rfl rfl ?_
  refine sk_S.iconst (v := 0) (dd DX6_hear 12 rfl) (by decide) ?_
  refine sk_S.putf (dd DX6_hear 13 rfl) rfl pX6_29 se_4 (by decide) rfl rfl rfl ?_
  refine sk_S.aload_n (i := 0) (dd DX6_hear 14 rfl) rfl rfl ?_
  refine sk_S.iconst (v := 0) (dd DX6_hear 15 rfl) (by decide) ?_
  refine sk_S.putf (dd DX6_hear 16 rfl) rfl pX6_32 se_4 (by decide) rfl rfl rfl ?_
  refine sk_S.aload_n (i := 0) (dd DX6_hear 17 rfl) rfl rfl ?_
  refine sk_S.aload_n (i := 0) (dd DX6_hear 18 rfl) rfl rfl ?_
  refine sk_S.geti (dd DX6_hear 19 rfl) rfl fX6_21 se_4 (by decide) rfl ?_
  refine sk_S.V 0 (by simp [sk_u_at, hb4, e0, e1]) ?_
  refine sk_S.iload_n (i := 3) (dd DX6_hear 20 rfl) rfl rfl ?_
  refine sk_S.iload (i := 4) (dd DX6_hear 21 rfl) rfl ?_
  refine sk_S.iconst (v := 0) (dd DX6_hear 22 rfl) (by decide) ?_
  have hV : voI (sk_u (sk_u (sk_u (sk_u (sk_u h 4 3 (h b 0)) 4 5 (sk_u h 4 3 (h b 0) b 1)) 4 4 (nI t)) 4 1 0) 4 2 0) 0 m t 0 := ⟨by simp [sk_u_at, hb4, e0, e1], by simp [sk_u_at, hb4, e0, e1], by simp [sk_u_at, hb4, e0, e1], by simp [sk_u_at, hb4, e0, e1], by rw [sk_u_at, if_pos rfl, if_neg (by decide), sk_u_at, if_pos rfl, if_pos rfl]; rfl⟩
  refine sk_S.callV (dd DX6_hear 23 rfl) rfl kX6_36 (cV_sp_0_0_1 (dep := 0) (by decide) (by decide) hV) se_4 (by decide) rfl rfl rfl rfl (Nat.le_of_ble_eq_true rfl) (fun r40 h40 q40 => ?_)
  obtain ⟨x40, rfl⟩ := q40
  show sk_S _ _ _ _ _ _ (.int _ :: _) _ _
  refine sk_S.iret (dd DX6_hear 24 rfl) rfl rfl ?_
  refine ⟨?_, ?_⟩
  · have e : voB 1 0 m (nI t) = [11, 10] := by simp [voB, voCb, voPb, voHb, voLb, voRb]
    rw [e]
    exact tcV.of (((((sk_o.rf.u (by decide)).u (by decide)).u (by decide)).u (by decide)).u (by decide)) x40
  · have e : voV 1 0 m (nI t) x = ((x + nI t) * 2) := by simp [voV, voC, voP, voH, voL, voR]
    rw [e]
set_option maxRecDepth 100000 in
set_option maxHeartbeats 1000000 in
theorem cV_he_0_2 {l : Launch} {E : sk_V} {d : Nat} {h : sk_M} {b t : Nat} {m x : Int32} (hb : sk_e b = (1, 0, 3, [])) (hb4 : ¬ b = 4) (e0 : h b 0 = 0) (e1 : h b 1 = m) : sk_K l E (d + 9) MX6_hear [.ref 4, .ref b, .int (nI t), .int 2, .int x] h (fun r h1 => tcV h h1 (voB 2 0 m (nI t)) 0 ∧ some (.int (voV 2 0 m (nI t) x)) = r) := by
  refine sk_K.of (by decide +kernel) (Nat.le_of_ble_eq_true rfl) ?_
  show sk_S l E (d + 9) _ 0 [some (.ref 4), some (.ref b), some (.int (nI t)), some (.int 2), some (.int x)] [] h _
  refine sk_S.aload_n (i := 0) (dd DX6_hear 0 rfl) rfl rfl ?_
  refine sk_S.aload_n (i := 1) (dd DX6_hear 1 rfl) rfl rfl ?_
  refine sk_S.geti (dd DX6_hear 2 rfl) rfl fX6_15 hb (by decide) rfl ?_
  refine sk_S.putf (dd DX6_hear 3 rfl) rfl pX6_21 se_4 (by decide) rfl rfl rfl ?_
  refine sk_S.aload_n (i := 0) (dd DX6_hear 4 rfl) rfl rfl ?_
  refine sk_S.aload_n (i := 1) (dd DX6_hear 5 rfl) rfl rfl ?_
  refine sk_S.geti (dd DX6_hear 6 rfl) rfl fX6_22 hb (by decide) rfl ?_
  refine sk_S.putf (dd DX6_hear 7 rfl) rfl pX6_25 se_4 (by decide) rfl rfl rfl ?_
  refine sk_S.aload_n (i := 0) (dd DX6_hear 8 rfl) rfl rfl ?_
  refine sk_S.iload_n (i := 2) (dd DX6_hear 9 rfl) rfl rfl ?_
  refine sk_S.putf (dd DX6_hear 10 rfl) rfl pX6_26 se_4 (by decide) rfl rfl rfl ?_
  refine sk_S.aload_n (i := 0) (dd DX6_hear 11 rfl) rfl rfl ?_
  refine sk_S.iconst (v := 0) (dd DX6_hear 12 rfl) (by decide) ?_
  refine sk_S.putf (dd DX6_hear 13 rfl) rfl pX6_29 se_4 (by decide) rfl rfl rfl ?_
  refine sk_S.aload_n (i := 0) (dd DX6_hear 14 rfl) rfl rfl ?_
  refine sk_S.iconst (v := 0) (dd DX6_hear 15 rfl) (by decide) ?_
  refine sk_S.putf (dd DX6_hear 16 rfl) rfl pX6_32 se_4 (by decide) rfl rfl rfl ?_
  refine sk_S.aload_n (i := 0) (dd DX6_hear 17 rfl) rfl rfl ?_
  refine sk_S.aload_n (i := 0) (dd DX6_hear 18 rfl) rfl rfl ?_
  refine sk_S.geti (dd DX6_hear 19 rfl) rfl fX6_21 se_4 (by decide) rfl ?_
  refine sk_S.V 0 (by simp [sk_u_at, hb4, e0, e1]) ?_
  refine sk_S.iload_n (i := 3) (dd DX6_hear 20 rfl) rfl rfl ?_
  refine sk_S.iload (i := 4) (dd DX6_hear 21 rfl) rfl ?_
  refine sk_S.iconst (v := 0) (dd DX6_hear 22 rfl) (by decide) ?_
  have hV : voI (sk_u (sk_u (sk_u (sk_u (sk_u h 4 3 (h b 0)) 4 5 (sk_u h 4 3 (h b 0) b 1)) 4 4 (nI t)) 4 1 0) 4 2 0) 0 m t 0 := ⟨by simp [sk_u_at, hb4, e0, e1], by simp [sk_u_at, hb4, e0, e1], by simp [sk_u_at, hb4, e0, e1], by simp [sk_u_at, hb4, e0, e1], by rw [sk_u_at, if_pos rfl, if_neg (by decide), sk_u_at, if_pos rfl, if_pos rfl]; rfl⟩
  refine sk_S.callV (dd DX6_hear 23 rfl) rfl kX6_36 (cV_sp_0_0_2 (dep := 0) (by decide) (by decide) hV) se_4 (by decide) rfl rfl rfl rfl (Nat.le_of_ble_eq_true rfl) (fun r40 h40 q40 => ?_)
  obtain ⟨x40, rfl⟩ := q40
  show sk_S _ _ _ _ _ _ (.int _ :: _) _ _
  refine sk_S.iret (dd DX6_hear 24 rfl) rfl rfl ?_
  refine ⟨?_, ?_⟩
  · have e : voB 2 0 m (nI t) = [12, 11, 10] := by simp [voB, voCb, voPb, voHb, voLb, voRb]
    rw [e]
    exact tcV.of (((((sk_o.rf.u (by decide)).u (by decide)).u (by decide)).u (by decide)).u (by decide)) x40
  · have e : voV 2 0 m (nI t) x = (((x + nI t) * 2) - m) := by simp [voV, voC, voP, voH, voL, voR]
    rw [e]
set_option maxRecDepth 100000 in
set_option maxHeartbeats 1000000 in
theorem cV_he_0_3 {l : Launch} {E : sk_V} {d : Nat} {h : sk_M} {b t : Nat} {m x : Int32} (hb : sk_e b = (1, 0, 3, [])) (hb4 : ¬ b = 4) (e0 : h b 0 = 0) (e1 : h b 1 = m) (hp : ¬ m - nI t = 0) : sk_K l E (d + 4) MX6_hear [.ref 4, .ref b, .int (nI t), .int 3, .int x] h (fun r h1 => tcV h h1 (voB 3 0 m (nI t)) 0 ∧ some (.int (voV 3 0 m (nI t) x)) = r) := by
  refine sk_K.of (by decide +kernel) (Nat.le_of_ble_eq_true rfl) ?_
  show sk_S l E (d + 4) _ 0 [some (.ref 4), some (.ref b), some (.int (nI t)), some (.int 3), some (.int x)] [] h _
  refine sk_S.aload_n (i := 0) (dd DX6_hear 0 rfl) rfl rfl ?_
  refine sk_S.aload_n (i := 1) (dd DX6_hear 1 rfl) rfl rfl ?_
  refine sk_S.geti (dd DX6_hear 2 rfl) rfl fX6_15 hb (by decide) rfl ?_
  refine sk_S.putf (dd DX6_hear 3 rfl) rfl pX6_21 se_4 (by decide) rfl rfl rfl ?_
  refine sk_S.aload_n (i := 0) (dd DX6_hear 4 rfl) rfl rfl ?_
  refine sk_S.aload_n (i := 1) (dd DX6_hear 5 rfl) rfl rfl ?_
  refine sk_S.geti (dd DX6_hear 6 rfl) rfl fX6_22 hb (by decide) rfl ?_
  refine sk_S.putf (dd DX6_hear 7 rfl) rfl pX6_25 se_4 (by decide) rfl rfl rfl ?_
  refine sk_S.aload_n (i := 0) (dd DX6_hear 8 rfl) rfl rfl ?_
  refine sk_S.iload_n (i := 2) (dd DX6_hear 9 rfl) rfl rfl ?_
  refine sk_S.putf (dd DX6_hear 10 rfl) rfl pX6_26 se_4 (by decide) rfl rfl rfl ?_
  refine sk_S.aload_n (i := 0) (dd DX6_hear 11 rfl) rfl rfl ?_
  refine sk_S.iconst (v := 0) (dd DX6_hear 12 rfl) (by decide) ?_
  refine sk_S.putf (dd DX6_hear 13 rfl) rfl pX6_29 se_4 (by decide) rfl rfl rfl ?_
  refine sk_S.aload_n (i := 0) (dd DX6_hear 14 rfl) rfl rfl ?_
  refine sk_S.iconst (v := 0) (dd DX6_hear 15 rfl) (by decide) ?_
  refine sk_S.putf (dd DX6_hear 16 rfl) rfl pX6_32 se_4 (by decide) rfl rfl rfl ?_
  refine sk_S.aload_n (i := 0) (dd DX6_hear 17 rfl) rfl rfl ?_
  refine sk_S.aload_n (i := 0) (dd DX6_hear 18 rfl) rfl rfl ?_
  refine sk_S.geti (dd DX6_hear 19 rfl) rfl fX6_21 se_4 (by decide) rfl ?_
  refine sk_S.V 0 (by simp [sk_u_at, hb4, e0, e1]) ?_
  refine sk_S.iload_n (i := 3) (dd DX6_hear 20 rfl) rfl rfl ?_
  refine sk_S.iload (i := 4) (dd DX6_hear 21 rfl) rfl ?_
  refine sk_S.iconst (v := 0) (dd DX6_hear 22 rfl) (by decide) ?_
  have hV : voI (sk_u (sk_u (sk_u (sk_u (sk_u h 4 3 (h b 0)) 4 5 (sk_u h 4 3 (h b 0) b 1)) 4 4 (nI t)) 4 1 0) 4 2 0) 0 m t 0 := ⟨by simp [sk_u_at, hb4, e0, e1], by simp [sk_u_at, hb4, e0, e1], by simp [sk_u_at, hb4, e0, e1], by simp [sk_u_at, hb4, e0, e1], by rw [sk_u_at, if_pos rfl, if_neg (by decide), sk_u_at, if_pos rfl, if_pos rfl]; rfl⟩
  refine sk_S.callV (dd DX6_hear 23 rfl) rfl kX6_36 (cV_sp_0_0_3 (dep := 0) (by decide) (by decide) hV hp) se_4 (by decide) rfl rfl rfl rfl (Nat.le_of_ble_eq_true rfl) (fun r40 h40 q40 => ?_)
  obtain ⟨x40, rfl⟩ := q40
  show sk_S _ _ _ _ _ _ (.int _ :: _) _ _
  refine sk_S.iret (dd DX6_hear 24 rfl) rfl rfl ?_
  refine ⟨?_, ?_⟩
  · have e : voB 3 0 m (nI t) = [13] := by simp [voB, voCb, voPb, voHb, voLb, voRb, hp]
    rw [e]
    exact tcV.of (((((sk_o.rf.u (by decide)).u (by decide)).u (by decide)).u (by decide)).u (by decide)) x40
  · have e : voV 3 0 m (nI t) x = (x / (m - nI t)) := by simp [voV, voC, voP, voH, voL, voR, hp]
    rw [e]
set_option maxRecDepth 100000 in
set_option maxHeartbeats 1000000 in
theorem cV_he_0_3p {l : Launch} {E : sk_V} {d : Nat} {h : sk_M} {b t : Nat} {m x : Int32} (hb : sk_e b = (1, 0, 3, [])) (hb4 : ¬ b = 4) (e0 : h b 0 = 0) (e1 : h b 1 = m) (hp : m - nI t = 0) : sk_K l E (d + 4) MX6_hear [.ref 4, .ref b, .int (nI t), .int 3, .int x] h (fun r h1 => tcV h h1 (voB 3 0 m (nI t)) 1 ∧ (∃ y : Int32, some (.int y) = r)) := by
  refine sk_K.of (by decide +kernel) (Nat.le_of_ble_eq_true rfl) ?_
  show sk_S l E (d + 4) _ 0 [some (.ref 4), some (.ref b), some (.int (nI t)), some (.int 3), some (.int x)] [] h _
  refine sk_S.aload_n (i := 0) (dd DX6_hear 0 rfl) rfl rfl ?_
  refine sk_S.aload_n (i := 1) (dd DX6_hear 1 rfl) rfl rfl ?_
  refine sk_S.geti (dd DX6_hear 2 rfl) rfl fX6_15 hb (by decide) rfl ?_
  refine sk_S.putf (dd DX6_hear 3 rfl) rfl pX6_21 se_4 (by decide) rfl rfl rfl ?_
  refine sk_S.aload_n (i := 0) (dd DX6_hear 4 rfl) rfl rfl ?_
  refine sk_S.aload_n (i := 1) (dd DX6_hear 5 rfl) rfl rfl ?_
  refine sk_S.geti (dd DX6_hear 6 rfl) rfl fX6_22 hb (by decide) rfl ?_
  refine sk_S.putf (dd DX6_hear 7 rfl) rfl pX6_25 se_4 (by decide) rfl rfl rfl ?_
  refine sk_S.aload_n (i := 0) (dd DX6_hear 8 rfl) rfl rfl ?_
  refine sk_S.iload_n (i := 2) (dd DX6_hear 9 rfl) rfl rfl ?_
  refine sk_S.putf (dd DX6_hear 10 rfl) rfl pX6_26 se_4 (by decide) rfl rfl rfl ?_
  refine sk_S.aload_n (i := 0) (dd DX6_hear 11 rfl) rfl rfl ?_
  refine sk_S.iconst (v := 0) (dd DX6_hear 12 rfl) (by decide) ?_
  refine sk_S.putf (dd DX6_hear 13 rfl) rfl pX6_29 se_4 (by decide) rfl rfl rfl ?_
  refine sk_S.aload_n (i := 0) (dd DX6_hear 14 rfl) rfl rfl ?_
  refine sk_S.iconst (v := 0) (dd DX6_hear 15 rfl) (by decide) ?_
  refine sk_S.putf (dd DX6_hear 16 rfl) rfl pX6_32 se_4 (by decide) rfl rfl rfl ?_
  refine sk_S.aload_n (i := 0) (dd DX6_hear 17 rfl) rfl rfl ?_
  refine sk_S.aload_n (i := 0) (dd DX6_hear 18 rfl) rfl rfl ?_
  refine sk_S.geti (dd DX6_hear 19 rfl) rfl fX6_21 se_4 (by decide) rfl ?_
  refine sk_S.V 0 (by simp [sk_u_at, hb4, e0, e1]) ?_
  refine sk_S.iload_n (i := 3) (dd DX6_hear 20 rfl) rfl rfl ?_
  refine sk_S.iload (i := 4) (dd DX6_hear 21 rfl) rfl ?_
  refine sk_S.iconst (v := 0) (dd DX6_hear 22 rfl) (by decide) ?_
  have hV : voI (sk_u (sk_u (sk_u (sk_u (sk_u h 4 3 (h b 0)) 4 5 (sk_u h 4 3 (h b 0) b 1)) 4 4 (nI t)) 4 1 0) 4 2 0) 0 m t 0 := ⟨by simp [sk_u_at, hb4, e0, e1], by simp [sk_u_at, hb4, e0, e1], by simp [sk_u_at, hb4, e0, e1], by simp [sk_u_at, hb4, e0, e1], by rw [sk_u_at, if_pos rfl, if_neg (by decide), sk_u_at, if_pos rfl, if_pos rfl]; rfl⟩
  refine sk_S.callV (dd DX6_hear 23 rfl) rfl kX6_36 (cV_sp_0_0_3p (dep := 0) (by decide) (by decide) hV hp) se_4 (by decide) rfl rfl rfl rfl (Nat.le_of_ble_eq_true rfl) (fun r40 h40 q40 => ?_)
  obtain ⟨x40, rfl⟩ := q40
  show sk_S _ _ _ _ _ _ (.int _ :: _) _ _
  refine sk_S.iret (dd DX6_hear 24 rfl) rfl rfl ?_
  refine ⟨?_, ?_⟩
  · have e : voB 3 0 m (nI t) = [13] := by simp [voB, voCb, voPb, voHb, voLb, voRb, hp]
    rw [e]
    exact tcV.of (((((sk_o.rf.u (by decide)).u (by decide)).u (by decide)).u (by decide)).u (by decide)) x40
  · exact ⟨_, rfl⟩
set_option maxRecDepth 100000 in
set_option maxHeartbeats 1000000 in
theorem cV_he_1_0 {l : Launch} {E : sk_V} {d : Nat} {h : sk_M} {b t : Nat} {m x : Int32} (hb : sk_e b = (1, 0, 3, [])) (hb4 : ¬ b = 4) (e0 : h b 0 = 1) (e1 : h b 1 = m) : sk_K l E (d + 6) MX6_hear [.ref 4, .ref b, .int (nI t), .int 0, .int x] h (fun r h1 => tcV h h1 (voB 0 1 m (nI t)) 0 ∧ some (.int (voV 0 1 m (nI t) x)) = r) := by
  refine sk_K.of (by decide +kernel) (Nat.le_of_ble_eq_true rfl) ?_
  show sk_S l E (d + 6) _ 0 [some (.ref 4), some (.ref b), some (.int (nI t)), some (.int 0), some (.int x)] [] h _
  refine sk_S.aload_n (i := 0) (dd DX6_hear 0 rfl) rfl rfl ?_
  refine sk_S.aload_n (i := 1) (dd DX6_hear 1 rfl) rfl rfl ?_
  refine sk_S.geti (dd DX6_hear 2 rfl) rfl fX6_15 hb (by decide) rfl ?_
  refine sk_S.putf (dd DX6_hear 3 rfl) rfl pX6_21 se_4 (by decide) rfl rfl rfl ?_
  refine sk_S.aload_n (i := 0) (dd DX6_hear 4 rfl) rfl rfl ?_
  refine sk_S.aload_n (i := 1) (dd DX6_hear 5 rfl) rfl rfl ?_
  refine sk_S.geti (dd DX6_hear 6 rfl) rfl fX6_22 hb (by decide) rfl ?_
  refine sk_S.putf (dd DX6_hear 7 rfl) rfl pX6_25 se_4 (by decide) rfl rfl rfl ?_
  refine sk_S.aload_n (i := 0) (dd DX6_hear 8 rfl) rfl rfl ?_
  refine sk_S.iload_n (i := 2) (dd DX6_hear 9 rfl) rfl rfl ?_
  refine sk_S.putf (dd DX6_hear 10 rfl) rfl pX6_26 se_4 (by decide) rfl rfl rfl ?_
  refine sk_S.aload_n (i := 0) (dd DX6_hear 11 rfl) rfl rfl ?_
  refine sk_S.iconst (v := 0) (dd DX6_hear 12 rfl) (by decide) ?_
  refine sk_S.putf (dd DX6_hear 13 rfl) rfl pX6_29 se_4 (by decide) rfl rfl rfl ?_
  refine sk_S.aload_n (i := 0) (dd DX6_hear 14 rfl) rfl rfl ?_
  refine sk_S.iconst (v := 0) (dd DX6_hear 15 rfl) (by decide) ?_
  refine sk_S.putf (dd DX6_hear 16 rfl) rfl pX6_32 se_4 (by decide) rfl rfl rfl ?_
  refine sk_S.aload_n (i := 0) (dd DX6_hear 17 rfl) rfl rfl ?_
  refine sk_S.aload_n (i := 0) (dd DX6_hear 18 rfl) rfl rfl ?_
  refine sk_S.geti (dd DX6_hear 19 rfl) rfl fX6_21 se_4 (by decide) rfl ?_
  refine sk_S.V 1 (by simp [sk_u_at, hb4, e0, e1]) ?_
  refine sk_S.iload_n (i := 3) (dd DX6_hear 20 rfl) rfl rfl ?_
  refine sk_S.iload (i := 4) (dd DX6_hear 21 rfl) rfl ?_
  refine sk_S.iconst (v := 0) (dd DX6_hear 22 rfl) (by decide) ?_
  have hV : voI (sk_u (sk_u (sk_u (sk_u (sk_u h 4 3 (h b 0)) 4 5 (sk_u h 4 3 (h b 0) b 1)) 4 4 (nI t)) 4 1 0) 4 2 0) 1 m t 0 := ⟨by simp [sk_u_at, hb4, e0, e1], by simp [sk_u_at, hb4, e0, e1], by simp [sk_u_at, hb4, e0, e1], by simp [sk_u_at, hb4, e0, e1], by rw [sk_u_at, if_pos rfl, if_neg (by decide), sk_u_at, if_pos rfl, if_pos rfl]; rfl⟩
  refine sk_S.callV (dd DX6_hear 23 rfl) rfl kX6_36 (cV_sp_1_1_0 (dep := 0) (by decide) (by decide) hV) se_4 (by decide) rfl rfl rfl rfl (Nat.le_of_ble_eq_true rfl) (fun r40 h40 q40 => ?_)
  obtain ⟨x40, rfl⟩ := q40
  show sk_S _ _ _ _ _ _ (.int _ :: _) _ _
  refine sk_S.iret (dd DX6_hear 24 rfl) rfl rfl ?_
  refine ⟨?_, ?_⟩
  · have e : voB 0 1 m (nI t) = [20, 10] := by simp [voB, voCb, voPb, voHb, voLb, voRb]
    rw [e]
    exact tcV.of (((((sk_o.rf.u (by decide)).u (by decide)).u (by decide)).u (by decide)).u (by decide)) x40
  · have e : voV 0 1 m (nI t) x = ((x + nI t) - 4) := by simp [voV, voC, voP, voH, voL, voR]
    rw [e]
set_option maxRecDepth 100000 in
set_option maxHeartbeats 1000000 in
theorem cV_he_1_1 {l : Launch} {E : sk_V} {d : Nat} {h : sk_M} {b t : Nat} {m x : Int32} (hb : sk_e b = (1, 0, 3, [])) (hb4 : ¬ b = 4) (e0 : h b 0 = 1) (e1 : h b 1 = m) : sk_K l E (d + 9) MX6_hear [.ref 4, .ref b, .int (nI t), .int 1, .int x] h (fun r h1 => tcV h h1 (voB 1 1 m (nI t)) 0 ∧ some (.int (voV 1 1 m (nI t) x)) = r) := by
  refine sk_K.of (by decide +kernel) (Nat.le_of_ble_eq_true rfl) ?_
  show sk_S l E (d + 9) _ 0 [some (.ref 4), some (.ref b), some (.int (nI t)), some (.int 1), some (.int x)] [] h _
  refine sk_S.aload_n (i := 0) (dd DX6_hear 0 rfl) rfl rfl ?_
  refine sk_S.aload_n (i := 1) (dd DX6_hear 1 rfl) rfl rfl ?_
  refine sk_S.geti (dd DX6_hear 2 rfl) rfl fX6_15 hb (by decide) rfl ?_
  refine sk_S.putf (dd DX6_hear 3 rfl) rfl pX6_21 se_4 (by decide) rfl rfl rfl ?_
  refine sk_S.aload_n (i := 0) (dd DX6_hear 4 rfl) rfl rfl ?_
  refine sk_S.aload_n (i := 1) (dd DX6_hear 5 rfl) rfl rfl ?_
  refine sk_S.geti (dd DX6_hear 6 rfl) rfl fX6_22 hb (by decide) rfl ?_
  refine sk_S.putf (dd DX6_hear 7 rfl) rfl pX6_25 se_4 (by decide) rfl rfl rfl ?_
  refine sk_S.aload_n (i := 0) (dd DX6_hear 8 rfl) rfl rfl ?_
  refine sk_S.iload_n (i := 2) (dd DX6_hear 9 rfl) rfl rfl ?_
  refine sk_S.putf (dd DX6_hear 10 rfl) rfl pX6_26 se_4 (by decide) rfl rfl rfl ?_
  refine sk_S.aload_n (i := 0) (dd DX6_hear 11 rfl) rfl rfl ?_
  refine sk_S.iconst (v := 0) (dd DX6_hear 12 rfl) (by decide) ?_
  refine sk_S.putf (dd DX6_hear 13 rfl) rfl pX6_29 se_4 (by decide) rfl rfl rfl ?_
  refine sk_S.aload_n (i := 0) (dd DX6_hear 14 rfl) rfl rfl ?_
  refine sk_S.iconst (v := 0) (dd DX6_hear 15 rfl) (by decide) ?_
  refine sk_S.putf (dd DX6_hear 16 rfl) rfl pX6_32 se_4 (by decide) rfl rfl rfl ?_
  refine sk_S.aload_n (i := 0) (dd DX6_hear 17 rfl) rfl rfl ?_
  refine sk_S.aload_n (i := 0) (dd DX6_hear 18 rfl) rfl rfl ?_
  refine sk_S.geti (dd DX6_hear 19 rfl) rfl fX6_21 se_4 (by decide) rfl ?_
  refine sk_S.V 1 (by simp [sk_u_at, hb4, e0, e1]) ?_
  refine sk_S.iload_n (i := 3) (dd DX6_hear 20 rfl) rfl rfl ?_
  refine sk_S.iload (i := 4) (dd DX6_hear 21 rfl) rfl ?_
  refine sk_S.iconst (v := 0) (dd DX6_hear 22 rfl) (by decide) ?_
  have hV : voI (sk_u (sk_u (sk_u (sk_u (sk_u h 4 3 (h b 0)) 4 5 (sk_u h 4 3 (h b 0) b 1)) 4 4 (nI t)) 4 1 0) 4 2 0) 1 m t 0 := ⟨by simp [sk_u_at, hb4, e0, e1], by simp [sk_u_at, hb4, e0, e1], by simp [sk_u_at, hb4, e0, e1], by simp [sk_u_at, hb4, e0, e1], by rw [sk_u_at, if_pos rfl, if_neg (by decide), sk_u_at, if_pos rfl, if_pos rfl]; rfl⟩
  refine sk_S.callV (dd DX6_hear 23 rfl) rfl kX6_36 (cV_sp_1_1_1 (dep := 0) (by decide) (by decide) hV) se_4 (by decide) rfl rfl rfl rfl (Nat.le_of_ble_eq_true rfl) (fun r40 h40 q40 => ?_)
  obtain ⟨x40, rfl⟩ := q40
  show sk_S _ _ _ _ _ _ (.int _ :: _) _ _
  refine sk_S.iret (dd DX6_hear 24 rfl) rfl rfl ?_
  refine ⟨?_, ?_⟩
  · have e : voB 1 1 m (nI t) = [11, 20, 10] := by simp [voB, voCb, voPb, voHb, voLb, voRb]
    rw [e]
    exact tcV.of (((((sk_o.rf.u (by decide)).u (by decide)).u (by decide)).u (by decide)).u (by decide)) x40
  · have e : voV 1 1 m (nI t) x = (((x + nI t) - 4) * 2) := by simp [voV, voC, voP, voH, voL, voR]
    rw [e]
set_option maxRecDepth 100000 in
set_option maxHeartbeats 1000000 in
theorem cV_he_1_2 {l : Launch} {E : sk_V} {d : Nat} {h : sk_M} {b t : Nat} {m x : Int32} (hb : sk_e b = (1, 0, 3, [])) (hb4 : ¬ b = 4) (e0 : h b 0 = 1) (e1 : h b 1 = m) : sk_K l E (d + 12) MX6_hear [.ref 4, .ref b, .int (nI t), .int 2, .int x] h (fun r h1 => tcV h h1 (voB 2 1 m (nI t)) 0 ∧ some (.int (voV 2 1 m (nI t) x)) = r) := by
  refine sk_K.of (by decide +kernel) (Nat.le_of_ble_eq_true rfl) ?_
  show sk_S l E (d + 12) _ 0 [some (.ref 4), some (.ref b), some (.int (nI t)), some (.int 2), some (.int x)] [] h _
  refine sk_S.aload_n (i := 0) (dd DX6_hear 0 rfl) rfl rfl ?_
  refine sk_S.aload_n (i := 1) (dd DX6_hear 1 rfl) rfl rfl ?_
  refine sk_S.geti (dd DX6_hear 2 rfl) rfl fX6_15 hb (by decide) rfl ?_
  refine sk_S.putf (dd DX6_hear 3 rfl) rfl pX6_21 se_4 (by decide) rfl rfl rfl ?_
  refine sk_S.aload_n (i := 0) (dd DX6_hear 4 rfl) rfl rfl ?_
  refine sk_S.aload_n (i := 1) (dd DX6_hear 5 rfl) rfl rfl ?_
  refine sk_S.geti (dd DX6_hear 6 rfl) rfl fX6_22 hb (by decide) rfl ?_
  refine sk_S.putf (dd DX6_hear 7 rfl) rfl pX6_25 se_4 (by decide) rfl rfl rfl ?_
  refine sk_S.aload_n (i := 0) (dd DX6_hear 8 rfl) rfl rfl ?_
  refine sk_S.iload_n (i := 2) (dd DX6_hear 9 rfl) rfl rfl ?_
  refine sk_S.putf (dd DX6_hear 10 rfl) rfl pX6_26 se_4 (by decide) rfl rfl rfl ?_
  refine sk_S.aload_n (i := 0) (dd DX6_hear 11 rfl) rfl rfl ?_
  refine sk_S.iconst (v := 0) (dd DX6_hear 12 rfl) (by decide) ?_
  refine sk_S.putf (dd DX6_hear 13 rfl) rfl pX6_29 se_4 (by decide) rfl rfl rfl ?_
  refine sk_S.aload_n (i := 0) (dd DX6_hear 14 rfl) rfl rfl ?_
  refine sk_S.iconst (v := 0) (dd DX6_hear 15 rfl) (by decide) ?_
  refine sk_S.putf (dd DX6_hear 16 rfl) rfl pX6_32 se_4 (by decide) rfl rfl rfl ?_
  refine sk_S.aload_n (i := 0) (dd DX6_hear 17 rfl) rfl rfl ?_
  refine sk_S.aload_n (i := 0) (dd DX6_hear 18 rfl) rfl rfl ?_
  refine sk_S.geti (dd DX6_hear 19 rfl) rfl fX6_21 se_4 (by decide) rfl ?_
  refine sk_S.V 1 (by simp [sk_u_at, hb4, e0, e1]) ?_
  refine sk_S.iload_n (i := 3) (dd DX6_hear 20 rfl) rfl rfl ?_
  refine sk_S.iload (i := 4) (dd DX6_hear 21 rfl) rfl ?_
  refine sk_S.iconst (v := 0) (dd DX6_hear 22 rfl) (by decide) ?_
  have hV : voI (sk_u (sk_u (sk_u (sk_u (sk_u h 4 3 (h b 0)) 4 5 (sk_u h 4 3 (h b 0) b 1)) 4 4 (nI t)) 4 1 0) 4 2 0) 1 m t 0 := ⟨by simp [sk_u_at, hb4, e0, e1], by simp [sk_u_at, hb4, e0, e1], by simp [sk_u_at, hb4, e0, e1], by simp [sk_u_at, hb4, e0, e1], by rw [sk_u_at, if_pos rfl, if_neg (by decide), sk_u_at, if_pos rfl, if_pos rfl]; rfl⟩
  refine sk_S.callV (dd DX6_hear 23 rfl) rfl kX6_36 (cV_sp_1_1_2 (dep := 0) (by decide) (by decide) hV) se_4 (by decide) rfl rfl rfl rfl (Nat.le_of_ble_eq_true rfl) (fun r40 h40 q40 => ?_)
  obtain ⟨x40, rfl⟩ := q40
  show sk_S _ _ _ _ _ _ (.int _ :: _) _ _
  refine sk_S.iret (dd DX6_hear 24 rfl) rfl rfl ?_
  refine ⟨?_, ?_⟩
  · have e : voB 2 1 m (nI t) = [12, 11, 20, 10] := by simp [voB, voCb, voPb, voHb, voLb, voRb]
    rw [e]
    exact tcV.of (((((sk_o.rf.u (by decide)).u (by decide)).u (by decide)).u (by decide)).u (by decide)) x40
  · have e : voV 2 1 m (nI t) x = ((((x + nI t) - 4) * 2) - m) := by simp [voV, voC, voP, voH, voL, voR]
    rw [e]
set_option maxRecDepth 100000 in
set_option maxHeartbeats 1000000 in
theorem cV_he_1_3 {l : Launch} {E : sk_V} {d : Nat} {h : sk_M} {b t : Nat} {m x : Int32} (hb : sk_e b = (1, 0, 3, [])) (hb4 : ¬ b = 4) (e0 : h b 0 = 1) (e1 : h b 1 = m) (hp : ¬ m - nI t = 0) : sk_K l E (d + 12) MX6_hear [.ref 4, .ref b, .int (nI t), .int 3, .int x] h (fun r h1 => tcV h h1 (voB 3 1 m (nI t)) 0 ∧ some (.int (voV 3 1 m (nI t) x)) = r) := by
  refine sk_K.of (by decide +kernel) (Nat.le_of_ble_eq_true rfl) ?_
  show sk_S l E (d + 12) _ 0 [some (.ref 4), some (.ref b), some (.int (nI t)), some (.int 3), some (.int x)] [] h _
  refine sk_S.aload_n (i := 0) (dd DX6_hear 0 rfl) rfl rfl ?_
  refine sk_S.aload_n (i := 1) (dd DX6_hear 1 rfl) rfl rfl ?_
  refine sk_S.geti (dd DX6_hear 2 rfl) rfl fX6_15 hb (by decide) rfl ?_
  refine sk_S.putf (dd DX6_hear 3 rfl) rfl pX6_21 se_4 (by decide) rfl rfl rfl ?_
  refine sk_S.aload_n (i := 0) (dd DX6_hear 4 rfl) rfl rfl ?_
  refine sk_S.aload_n (i := 1) (dd DX6_hear 5 rfl) rfl rfl ?_
  refine sk_S.geti (dd DX6_hear 6 rfl) rfl fX6_22 hb (by decide) rfl ?_
  refine sk_S.putf (dd DX6_hear 7 rfl) rfl pX6_25 se_4 (by decide) rfl rfl rfl ?_
  refine sk_S.aload_n (i := 0) (dd DX6_hear 8 rfl) rfl rfl ?_
  refine sk_S.iload_n (i := 2) (dd DX6_hear 9 rfl) rfl rfl ?_
  refine sk_S.putf (dd DX6_hear 10 rfl) rfl pX6_26 se_4 (by decide) rfl rfl rfl ?_
  refine sk_S.aload_n (i := 0) (dd DX6_hear 11 rfl) rfl rfl ?_
  refine sk_S.iconst (v := 0) (dd DX6_hear 12 rfl) (by decide) ?_
  refine sk_S.putf (dd DX6_hear 13 rfl) rfl pX6_29 se_4 (by decide) rfl rfl rfl ?_
  refine sk_S.aload_n (i := 0) (dd DX6_hear 14 rfl) rfl rfl ?_
  refine sk_S.iconst (v := 0) (dd DX6_hear 15 rfl) (by decide) ?_
  refine sk_S.putf (dd DX6_hear 16 rfl) rfl pX6_32 se_4 (by decide) rfl rfl rfl ?_
  refine sk_S.aload_n (i := 0) (dd DX6_hear 17 rfl) rfl rfl ?_
  refine sk_S.aload_n (i := 0) (dd DX6_hear 18 rfl) rfl rfl ?_
  refine sk_S.geti (dd DX6_hear 19 rfl) rfl fX6_21 se_4 (by decide) rfl ?_
  refine sk_S.V 1 (by simp [sk_u_at, hb4, e0, e1]) ?_
  refine sk_S.iload_n (i := 3) (dd DX6_hear 20 rfl) rfl rfl ?_
  refine sk_S.iload (i := 4) (dd DX6_hear 21 rfl) rfl ?_
  refine sk_S.iconst (v := 0) (dd DX6_hear 22 rfl) (by decide) ?_
  have hV : voI (sk_u (sk_u (sk_u (sk_u (sk_u h 4 3 (h b 0)) 4 5 (sk_u h 4 3 (h b 0) b 1)) 4 4 (nI t)) 4 1 0) 4 2 0) 1 m t 0 := ⟨by simp [sk_u_at, hb4, e0, e1], by simp [sk_u_at, hb4, e0, e1], by simp [sk_u_at, hb4, e0, e1], by simp [sk_u_at, hb4, e0, e1], by rw [sk_u_at, if_pos rfl, if_neg (by decide), sk_u_at, if_pos rfl, if_pos rfl]; rfl⟩
  refine sk_S.callV (dd DX6_hear 23 rfl) rfl kX6_36 (cV_sp_1_1_3 (dep := 0) (by decide) (by decide) hV hp) se_4 (by decide) rfl rfl rfl rfl (Nat.le_of_ble_eq_true rfl) (fun r40 h40 q40 => ?_)
  obtain ⟨x40, rfl⟩ := q40
  show sk_S _ _ _ _ _ _ (.int _ :: _) _ _
  refine sk_S.iret (dd DX6_hear 24 rfl) rfl rfl ?_
  refine ⟨?_, ?_⟩
  · have e : voB 3 1 m (nI t) = [21, 13, 11, 20, 10] := by simp [voB, voCb, voPb, voHb, voLb, voRb, hp]
    rw [e]
    exact tcV.of (((((sk_o.rf.u (by decide)).u (by decide)).u (by decide)).u (by decide)).u (by decide)) x40
  · have e : voV 3 1 m (nI t) x = ((x / (m - nI t)) + (((1 + nI t) - 4) * 2)) := by simp [voV, voC, voP, voH, voL, voR, hp]
    rw [e]
set_option maxRecDepth 100000 in
set_option maxHeartbeats 1000000 in
theorem cV_he_1_3p {l : Launch} {E : sk_V} {d : Nat} {h : sk_M} {b t : Nat} {m x : Int32} (hb : sk_e b = (1, 0, 3, [])) (hb4 : ¬ b = 4) (e0 : h b 0 = 1) (e1 : h b 1 = m) (hp : m - nI t = 0) : sk_K l E (d + 7) MX6_hear [.ref 4, .ref b, .int (nI t), .int 3, .int x] h (fun r h1 => tcV h h1 (voB 3 1 m (nI t)) 1 ∧ (∃ y : Int32, some (.int y) = r)) := by
  refine sk_K.of (by decide +kernel) (Nat.le_of_ble_eq_true rfl) ?_
  show sk_S l E (d + 7) _ 0 [some (.ref 4), some (.ref b), some (.int (nI t)), some (.int 3), some (.int x)] [] h _
  refine sk_S.aload_n (i := 0) (dd DX6_hear 0 rfl) rfl rfl ?_
  refine sk_S.aload_n (i := 1) (dd DX6_hear 1 rfl) rfl rfl ?_
  refine sk_S.geti (dd DX6_hear 2 rfl) rfl fX6_15 hb (by decide) rfl ?_
  refine sk_S.putf (dd DX6_hear 3 rfl) rfl pX6_21 se_4 (by decide) rfl rfl rfl ?_
  refine sk_S.aload_n (i := 0) (dd DX6_hear 4 rfl) rfl rfl ?_
  refine sk_S.aload_n (i := 1) (dd DX6_hear 5 rfl) rfl rfl ?_
  refine sk_S.geti (dd DX6_hear 6 rfl) rfl fX6_22 hb (by decide) rfl ?_
  refine sk_S.putf (dd DX6_hear 7 rfl) rfl pX6_25 se_4 (by decide) rfl rfl rfl ?_
  refine sk_S.aload_n (i := 0) (dd DX6_hear 8 rfl) rfl rfl ?_
  refine sk_S.iload_n (i := 2) (dd DX6_hear 9 rfl) rfl rfl ?_
  refine sk_S.putf (dd DX6_hear 10 rfl) rfl pX6_26 se_4 (by decide) rfl rfl rfl ?_
  refine sk_S.aload_n (i := 0) (dd DX6_hear 11 rfl) rfl rfl ?_
  refine sk_S.iconst (v := 0) (dd DX6_hear 12 rfl) (by decide) ?_
  refine sk_S.putf (dd DX6_hear 13 rfl) rfl pX6_29 se_4 (by decide) rfl rfl rfl ?_
  refine sk_S.aload_n (i := 0) (dd DX6_hear 14 rfl) rfl rfl ?_
  refine sk_S.iconst (v := 0) (dd DX6_hear 15 rfl) (by decide) ?_
  refine sk_S.putf (dd DX6_hear 16 rfl) rfl pX6_32 se_4 (by decide) rfl rfl rfl ?_
  refine sk_S.aload_n (i := 0) (dd DX6_hear 17 rfl) rfl rfl ?_
  refine sk_S.aload_n (i := 0) (dd DX6_hear 18 rfl) rfl rfl ?_
  refine sk_S.geti (dd DX6_hear 19 rfl) rfl fX6_21 se_4 (by decide) rfl ?_
  refine sk_S.V 1 (by simp [sk_u_at, hb4, e0, e1]) ?_
  refine sk_S.iload_n (i := 3) (dd DX6_hear 20 rfl) rfl rfl ?_
  refine sk_S.iload (i := 4) (dd DX6_hear 21 rfl) rfl ?_
  refine sk_S.iconst (v := 0) (dd DX6_hear 22 rfl) (by decide) ?_
  have hV : voI (sk_u (sk_u (sk_u (sk_u (sk_u h 4 3 (h b 0)) 4 5 (sk_u h 4 3 (h b 0) b 1)) 4 4 (nI t)) 4 1 0) 4 2 0) 1 m t 0 := ⟨by simp [sk_u_at, hb4, e0, e1], by simp [sk_u_at, hb4, e0, e1], by simp [sk_u_at, hb4, e0, e1], by simp [sk_u_at, hb4, e0, e1], by rw [sk_u_at, if_pos rfl, if_neg (by decide), sk_u_at, if_pos rfl, if_pos rfl]; rfl⟩
  refine sk_S.callV (dd DX6_hear 23 rfl) rfl kX6_36 (cV_sp_1_1_3p (dep := 0) (by decide) (by decide) hV hp) se_4 (by decide) rfl rfl rfl rfl (Nat.le_of_ble_eq_true rfl) (fun r40 h40 q40 => ?_)
  obtain ⟨x40, rfl⟩ := q40
  show sk_S _ _ _ _ _ _ (.int _ :: _) _ _
  refine sk_S.iret (dd DX6_hear 24 rfl) rfl rfl ?_
  refine ⟨?_, ?_⟩
  · have e : voB 3 1 m (nI t) = [21, 13] := by simp [voB, voCb, voPb, voHb, voLb, voRb, hp]
    rw [e]
    exact tcV.of (((((sk_o.rf.u (by decide)).u (by decide)).u (by decide)).u (by decide)).u (by decide)) x40
  · exact ⟨_, rfl⟩
set_option maxRecDepth 100000 in
set_option maxHeartbeats 1000000 in
theorem cV_he_2_0 {l : Launch} {E : sk_V} {d : Nat} {h : sk_M} {b t : Nat} {m x : Int32} (hb : sk_e b = (1, 0, 3, [])) (hb4 : ¬ b = 4) (e0 : h b 0 = 2) (e1 : h b 1 = m) : sk_K l E (d + 3) MX6_hear [.ref 4, .ref b, .int (nI t), .int 0, .int x] h (fun r h1 => tcV h h1 (voB 0 2 m (nI t)) 0 ∧ some (.int (voV 0 2 m (nI t) x)) = r) := by
  refine sk_K.of (by decide +kernel) (Nat.le_of_ble_eq_true rfl) ?_
  show sk_S l E (d + 3) _ 0 [some (.ref 4), some (.ref b), some (.int (nI t)), some (.int 0), some (.int x)] [] h _
  refine sk_S.aload_n (i := 0) (dd DX6_hear 0 rfl) rfl rfl ?_
  refine sk_S.aload_n (i := 1) (dd DX6_hear 1 rfl) rfl rfl ?_
  refine sk_S.geti (dd DX6_hear 2 rfl) rfl fX6_15 hb (by decide) rfl ?_
  refine sk_S.putf (dd DX6_hear 3 rfl) rfl pX6_21 se_4 (by decide) rfl rfl rfl ?_
  refine sk_S.aload_n (i := 0) (dd DX6_hear 4 rfl) rfl rfl ?_
  refine sk_S.aload_n (i := 1) (dd DX6_hear 5 rfl) rfl rfl ?_
  refine sk_S.geti (dd DX6_hear 6 rfl) rfl fX6_22 hb (by decide) rfl ?_
  refine sk_S.putf (dd DX6_hear 7 rfl) rfl pX6_25 se_4 (by decide) rfl rfl rfl ?_
  refine sk_S.aload_n (i := 0) (dd DX6_hear 8 rfl) rfl rfl ?_
  refine sk_S.iload_n (i := 2) (dd DX6_hear 9 rfl) rfl rfl ?_
  refine sk_S.putf (dd DX6_hear 10 rfl) rfl pX6_26 se_4 (by decide) rfl rfl rfl ?_
  refine sk_S.aload_n (i := 0) (dd DX6_hear 11 rfl) rfl rfl ?_
  refine sk_S.iconst (v := 0) (dd DX6_hear 12 rfl) (by decide) ?_
  refine sk_S.putf (dd DX6_hear 13 rfl) rfl pX6_29 se_4 (by decide) rfl rfl rfl ?_
  refine sk_S.aload_n (i := 0) (dd DX6_hear 14 rfl) rfl rfl ?_
  refine sk_S.iconst (v := 0) (dd DX6_hear 15 rfl) (by decide) ?_
  refine sk_S.putf (dd DX6_hear 16 rfl) rfl pX6_32 se_4 (by decide) rfl rfl rfl ?_
  refine sk_S.aload_n (i := 0) (dd DX6_hear 17 rfl) rfl rfl ?_
  refine sk_S.aload_n (i := 0) (dd DX6_hear 18 rfl) rfl rfl ?_
  refine sk_S.geti (dd DX6_hear 19 rfl) rfl fX6_21 se_4 (by decide) rfl ?_
  refine sk_S.V 2 (by simp [sk_u_at, hb4, e0, e1]) ?_
  refine sk_S.iload_n (i := 3) (dd DX6_hear 20 rfl) rfl rfl ?_
  refine sk_S.iload (i := 4) (dd DX6_hear 21 rfl) rfl ?_
  refine sk_S.iconst (v := 0) (dd DX6_hear 22 rfl) (by decide) ?_
  have hV : voI (sk_u (sk_u (sk_u (sk_u (sk_u h 4 3 (h b 0)) 4 5 (sk_u h 4 3 (h b 0) b 1)) 4 4 (nI t)) 4 1 0) 4 2 0) 2 m t 0 := ⟨by simp [sk_u_at, hb4, e0, e1], by simp [sk_u_at, hb4, e0, e1], by simp [sk_u_at, hb4, e0, e1], by simp [sk_u_at, hb4, e0, e1], by rw [sk_u_at, if_pos rfl, if_neg (by decide), sk_u_at, if_pos rfl, if_pos rfl]; rfl⟩
  refine sk_S.callV (dd DX6_hear 23 rfl) rfl kX6_36 (cV_sp_2_2_0 (dep := 0) (by decide) (by decide) hV) se_4 (by decide) rfl rfl rfl rfl (Nat.le_of_ble_eq_true rfl) (fun r40 h40 q40 => ?_)
  obtain ⟨x40, rfl⟩ := q40
  show sk_S _ _ _ _ _ _ (.int _ :: _) _ _
  refine sk_S.iret (dd DX6_hear 24 rfl) rfl rfl ?_
  refine ⟨?_, ?_⟩
  · have e : voB 0 2 m (nI t) = [10] := by simp [voB, voCb, voPb, voHb, voLb, voRb]
    rw [e]
    exact tcV.of (((((sk_o.rf.u (by decide)).u (by decide)).u (by decide)).u (by decide)).u (by decide)) x40
  · have e : voV 0 2 m (nI t) x = (x + nI t) := by simp [voV, voC, voP, voH, voL, voR]
    rw [e]
set_option maxRecDepth 100000 in
set_option maxHeartbeats 1000000 in
theorem cV_he_2_1 {l : Launch} {E : sk_V} {d : Nat} {h : sk_M} {b t : Nat} {m x : Int32} (hb : sk_e b = (1, 0, 3, [])) (hb4 : ¬ b = 4) (e0 : h b 0 = 2) (e1 : h b 1 = m) : sk_K l E (d + 9) MX6_hear [.ref 4, .ref b, .int (nI t), .int 1, .int x] h (fun r h1 => tcV h h1 (voB 1 2 m (nI t)) 0 ∧ some (.int (voV 1 2 m (nI t) x)) = r) := by
  refine sk_K.of (by decide +kernel) (Nat.le_of_ble_eq_true rfl) ?_
  show sk_S l E (d + 9) _ 0 [some (.ref 4), some (.ref b), some (.int (nI t)), some (.int 1), some (.int x)] [] h _
  refine sk_S.aload_n (i := 0) (dd DX6_hear 0 rfl) rfl rfl ?_
  refine sk_S.aload_n (i := 1) (dd DX6_hear 1 rfl) rfl rfl ?_
  refine sk_S.geti (dd DX6_hear 2 rfl) rfl fX6_15 hb (by decide) rfl ?_
  refine sk_S.putf (dd DX6_hear 3 rfl) rfl pX6_21 se_4 (by decide) rfl rfl rfl ?_
  refine sk_S.aload_n (i := 0) (dd DX6_hear 4 rfl) rfl rfl ?_
  refine sk_S.aload_n (i := 1) (dd DX6_hear 5 rfl) rfl rfl ?_
  refine sk_S.geti (dd DX6_hear 6 rfl) rfl fX6_22 hb (by decide) rfl ?_
  refine sk_S.putf (dd DX6_hear 7 rfl) rfl pX6_25 se_4 (by decide) rfl rfl rfl ?_
  refine sk_S.aload_n (i := 0) (dd DX6_hear 8 rfl) rfl rfl ?_
  refine sk_S.iload_n (i := 2) (dd DX6_hear 9 rfl) rfl rfl ?_
  refine sk_S.putf (dd DX6_hear 10 rfl) rfl pX6_26 se_4 (by decide) rfl rfl rfl ?_
  refine sk_S.aload_n (i := 0) (dd DX6_hear 11 rfl) rfl rfl ?_
  refine sk_S.iconst (v := 0) (dd DX6_hear 12 rfl) (by decide) ?_
  refine sk_S.putf (dd DX6_hear 13 rfl) rfl pX6_29 se_4 (by decide) rfl rfl rfl ?_
  refine sk_S.aload_n (i := 0) (dd DX6_hear 14 rfl) rfl rfl ?_
  refine sk_S.iconst (v := 0) (dd DX6_hear 15 rfl) (by decide) ?_
  refine sk_S.putf (dd DX6_hear 16 rfl) rfl pX6_32 se_4 (by decide) rfl rfl rfl ?_
  refine sk_S.aload_n (i := 0) (dd DX6_hear 17 rfl) rfl rfl ?_
  refine sk_S.aload_n (i := 0) (dd DX6_hear 18 rfl) rfl rfl ?_
  refine sk_S.geti (dd DX6_hear 19 rfl) rfl fX6_21 se_4 (by decide) rfl ?_
  refine sk_S.V 2 (by simp [sk_u_at, hb4, e0, e1]) ?_
  refine sk_S.iload_n (i := 3) (dd DX6_hear 20 rfl) rfl rfl ?_
  refine sk_S.iload (i := 4) (dd DX6_hear 21 rfl) rfl ?_
  refine sk_S.iconst (v := 0) (dd DX6_hear 22 rfl) (by decide) ?_
  have hV : voI (sk_u (sk_u (sk_u (sk_u (sk_u h 4 3 (h b 0)) 4 5 (sk_u h 4 3 (h b 0) b 1)) 4 4 (nI t)) 4 1 0) 4 2 0) 2 m t 0 := ⟨by simp [sk_u_at, hb4, e0, e1], by simp [sk_u_at, hb4, e0, e1], by simp [sk_u_at, hb4, e0, e1], by simp [sk_u_at, hb4, e0, e1], by rw [sk_u_at, if_pos rfl, if_neg (by decide), sk_u_at, if_pos rfl, if_pos rfl]; rfl⟩
  refine sk_S.callV (dd DX6_hear 23 rfl) rfl kX6_36 (cV_sp_2_2_1 (dep := 0) (by decide) (by decide) hV) se_4 (by decide) rfl rfl rfl rfl (Nat.le_of_ble_eq_true rfl) (fun r40 h40 q40 => ?_)
  obtain ⟨x40, rfl⟩ := q40
  show sk_S _ _ _ _ _ _ (.int _ :: _) _ _
  refine sk_S.iret (dd DX6_hear 24 rfl) rfl rfl ?_
  refine ⟨?_, ?_⟩
  · have e : voB 1 2 m (nI t) = [30, 11, 10] := by simp [voB, voCb, voPb, voHb, voLb, voRb]
    rw [e]
    exact tcV.of (((((sk_o.rf.u (by decide)).u (by decide)).u (by decide)).u (by decide)).u (by decide)) x40
  · have e : voV 1 2 m (nI t) x = (0 - ((x + nI t) * 2)) := by simp [voV, voC, voP, voH, voL, voR]
    rw [e]
set_option maxRecDepth 100000 in
set_option maxHeartbeats 1000000 in
theorem cV_he_2_2 {l : Launch} {E : sk_V} {d : Nat} {h : sk_M} {b t : Nat} {m x : Int32} (hb : sk_e b = (1, 0, 3, [])) (hb4 : ¬ b = 4) (e0 : h b 0 = 2) (e1 : h b 1 = m) : sk_K l E (d + 12) MX6_hear [.ref 4, .ref b, .int (nI t), .int 2, .int x] h (fun r h1 => tcV h h1 (voB 2 2 m (nI t)) 0 ∧ some (.int (voV 2 2 m (nI t) x)) = r) := by
  refine sk_K.of (by decide +kernel) (Nat.le_of_ble_eq_true rfl) ?_
  show sk_S l E (d + 12) _ 0 [some (.ref 4), some (.ref b), some (.int (nI t)), some (.int 2), some (.int x)] [] h _
  refine sk_S.aload_n (i := 0) (dd DX6_hear 0 rfl) rfl rfl ?_
  refine sk_S.aload_n (i := 1) (dd DX6_hear 1 rfl) rfl rfl ?_
  refine sk_S.geti (dd DX6_hear 2 rfl) rfl fX6_15 hb (by decide) rfl ?_
  refine sk_S.putf (dd DX6_hear 3 rfl) rfl pX6_21 se_4 (by decide) rfl rfl rfl ?_
  refine sk_S.aload_n (i := 0) (dd DX6_hear 4 rfl) rfl rfl ?_
  refine sk_S.aload_n (i := 1) (dd DX6_hear 5 rfl) rfl rfl ?_
  refine sk_S.geti (dd DX6_hear 6 rfl) rfl fX6_22 hb (by decide) rfl ?_
  refine sk_S.putf (dd DX6_hear 7 rfl) rfl pX6_25 se_4 (by decide) rfl rfl rfl ?_
  refine sk_S.aload_n (i := 0) (dd DX6_hear 8 rfl) rfl rfl ?_
  refine sk_S.iload_n (i := 2) (dd DX6_hear 9 rfl) rfl rfl ?_
  refine sk_S.putf (dd DX6_hear 10 rfl) rfl pX6_26 se_4 (by decide) rfl rfl rfl ?_
  refine sk_S.aload_n (i := 0) (dd DX6_hear 11 rfl) rfl rfl ?_
  refine sk_S.iconst (v := 0) (dd DX6_hear 12 rfl) (by decide) ?_
  refine sk_S.putf (dd DX6_hear 13 rfl) rfl pX6_29 se_4 (by decide) rfl rfl rfl ?_
  refine sk_S.aload_n (i := 0) (dd DX6_hear 14 rfl) rfl rfl ?_
  refine sk_S.iconst (v := 0) (dd DX6_hear 15 rfl) (by decide) ?_
  refine sk_S.putf (dd DX6_hear 16 rfl) rfl pX6_32 se_4 (by decide) rfl rfl rfl ?_
  refine sk_S.aload_n (i := 0) (dd DX6_hear 17 rfl) rfl rfl ?_
  refine sk_S.aload_n (i := 0) (dd DX6_hear 18 rfl) rfl rfl ?_
  refine sk_S.geti (dd DX6_hear 19 rfl) rfl fX6_21 se_4 (by decide) rfl ?_
  refine sk_S.V 2 (by simp [sk_u_at, hb4, e0, e1]) ?_
  refine sk_S.iload_n (i := 3) (dd DX6_hear 20 rfl) rfl rfl ?_
  refine sk_S.iload (i := 4) (dd DX6_hear 21 rfl) rfl ?_
  refine sk_S.iconst (v := 0) (dd DX6_hear 22 rfl) (by decide) ?_
  have hV : voI (sk_u (sk_u (sk_u (sk_u (sk_u h 4 3 (h b 0)) 4 5 (sk_u h 4 3 (h b 0) b 1)) 4 4 (nI t)) 4 1 0) 4 2 0) 2 m t 0 := ⟨by simp [sk_u_at, hb4, e0, e1], by simp [sk_u_at, hb4, e0, e1], by simp [sk_u_at, hb4, e0, e1], by simp [sk_u_at, hb4, e0, e1], by rw [sk_u_at, if_pos rfl, if_neg (by decide), sk_u_at, if_pos rfl, if_pos rfl]; rfl⟩
  refine sk_S.callV (dd DX6_hear 23 rfl) rfl kX6_36 (cV_sp_2_2_2 (dep := 0) (by decide) (by decide) hV) se_4 (by decide) rfl rfl rfl rfl (Nat.le_of_ble_eq_true rfl) (fun r40 h40 q40 => ?_)
  obtain ⟨x40, rfl⟩ := q40
  show sk_S _ _ _ _ _ _ (.int _ :: _) _ _
  refine sk_S.iret (dd DX6_hear 24 rfl) rfl rfl ?_
  refine ⟨?_, ?_⟩
  · have e : voB 2 2 m (nI t) = [12, 30, 11, 10] := by simp [voB, voCb, voPb, voHb, voLb, voRb]
    rw [e]
    exact tcV.of (((((sk_o.rf.u (by decide)).u (by decide)).u (by decide)).u (by decide)).u (by decide)) x40
  · have e : voV 2 2 m (nI t) x = ((0 - ((x + nI t) * 2)) - m) := by simp [voV, voC, voP, voH, voL, voR]
    rw [e]
set_option maxRecDepth 100000 in
set_option maxHeartbeats 1000000 in
theorem cV_he_2_3 {l : Launch} {E : sk_V} {d : Nat} {h : sk_M} {b t : Nat} {m x : Int32} (hb : sk_e b = (1, 0, 3, [])) (hb4 : ¬ b = 4) (e0 : h b 0 = 2) (e1 : h b 1 = m) (hp : ¬ m - nI t = 0) : sk_K l E (d + 4) MX6_hear [.ref 4, .ref b, .int (nI t), .int 3, .int x] h (fun r h1 => tcV h h1 (voB 3 2 m (nI t)) 0 ∧ some (.int (voV 3 2 m (nI t) x)) = r) := by
  refine sk_K.of (by decide +kernel) (Nat.le_of_ble_eq_true rfl) ?_
  show sk_S l E (d + 4) _ 0 [some (.ref 4), some (.ref b), some (.int (nI t)), some (.int 3), some (.int x)] [] h _
  refine sk_S.aload_n (i := 0) (dd DX6_hear 0 rfl) rfl rfl ?_
  refine sk_S.aload_n (i := 1) (dd DX6_hear 1 rfl) rfl rfl ?_
  refine sk_S.geti (dd DX6_hear 2 rfl) rfl fX6_15 hb (by decide) rfl ?_
  refine sk_S.putf (dd DX6_hear 3 rfl) rfl pX6_21 se_4 (by decide) rfl rfl rfl ?_
  refine sk_S.aload_n (i := 0) (dd DX6_hear 4 rfl) rfl rfl ?_
  refine sk_S.aload_n (i := 1) (dd DX6_hear 5 rfl) rfl rfl ?_
  refine sk_S.geti (dd DX6_hear 6 rfl) rfl fX6_22 hb (by decide) rfl ?_
  refine sk_S.putf (dd DX6_hear 7 rfl) rfl pX6_25 se_4 (by decide) rfl rfl rfl ?_
  refine sk_S.aload_n (i := 0) (dd DX6_hear 8 rfl) rfl rfl ?_
  refine sk_S.iload_n (i := 2) (dd DX6_hear 9 rfl) rfl rfl ?_
  refine sk_S.putf (dd DX6_hear 10 rfl) rfl pX6_26 se_4 (by decide) rfl rfl rfl ?_
  refine sk_S.aload_n (i := 0) (dd DX6_hear 11 rfl) rfl rfl ?_
  refine sk_S.iconst (v := 0) (dd DX6_hear 12 rfl) (by decide) ?_
  refine sk_S.putf (dd DX6_hear 13 rfl) rfl pX6_29 se_4 (by decide) rfl rfl rfl ?_
  refine sk_S.aload_n (i := 0) (dd DX6_hear 14 rfl) rfl rfl ?_
  refine sk_S.iconst (v := 0) (dd DX6_hear 15 rfl) (by decide) ?_
  refine sk_S.putf (dd DX6_hear 16 rfl) rfl pX6_32 se_4 (by decide) rfl rfl rfl ?_
  refine sk_S.aload_n (i := 0) (dd DX6_hear 17 rfl) rfl rfl ?_
  refine sk_S.aload_n (i := 0) (dd DX6_hear 18 rfl) rfl rfl ?_
  refine sk_S.geti (dd DX6_hear 19 rfl) rfl fX6_21 se_4 (by decide) rfl ?_
  refine sk_S.V 2 (by simp [sk_u_at, hb4, e0, e1]) ?_
  refine sk_S.iload_n (i := 3) (dd DX6_hear 20 rfl) rfl rfl ?_
  refine sk_S.iload (i := 4) (dd DX6_hear 21 rfl) rfl ?_
  refine sk_S.iconst (v := 0) (dd DX6_hear 22 rfl) (by decide) ?_
  have hV : voI (sk_u (sk_u (sk_u (sk_u (sk_u h 4 3 (h b 0)) 4 5 (sk_u h 4 3 (h b 0) b 1)) 4 4 (nI t)) 4 1 0) 4 2 0) 2 m t 0 := ⟨by simp [sk_u_at, hb4, e0, e1], by simp [sk_u_at, hb4, e0, e1], by simp [sk_u_at, hb4, e0, e1], by simp [sk_u_at, hb4, e0, e1], by rw [sk_u_at, if_pos rfl, if_neg (by decide), sk_u_at, if_pos rfl, if_pos rfl]; rfl⟩
  refine sk_S.callV (dd DX6_hear 23 rfl) rfl kX6_36 (cV_sp_2_2_3 (dep := 0) (by decide) (by decide) hV hp) se_4 (by decide) rfl rfl rfl rfl (Nat.le_of_ble_eq_true rfl) (fun r40 h40 q40 => ?_)
  obtain ⟨x40, rfl⟩ := q40
  show sk_S _ _ _ _ _ _ (.int _ :: _) _ _
  refine sk_S.iret (dd DX6_hear 24 rfl) rfl rfl ?_
  refine ⟨?_, ?_⟩
  · have e : voB 3 2 m (nI t) = [13] := by simp [voB, voCb, voPb, voHb, voLb, voRb, hp]
    rw [e]
    exact tcV.of (((((sk_o.rf.u (by decide)).u (by decide)).u (by decide)).u (by decide)).u (by decide)) x40
  · have e : voV 3 2 m (nI t) x = (x / (m - nI t)) := by simp [voV, voC, voP, voH, voL, voR, hp]
    rw [e]
set_option maxRecDepth 100000 in
set_option maxHeartbeats 1000000 in
theorem cV_he_2_3p {l : Launch} {E : sk_V} {d : Nat} {h : sk_M} {b t : Nat} {m x : Int32} (hb : sk_e b = (1, 0, 3, [])) (hb4 : ¬ b = 4) (e0 : h b 0 = 2) (e1 : h b 1 = m) (hp : m - nI t = 0) : sk_K l E (d + 4) MX6_hear [.ref 4, .ref b, .int (nI t), .int 3, .int x] h (fun r h1 => tcV h h1 (voB 3 2 m (nI t)) 1 ∧ (∃ y : Int32, some (.int y) = r)) := by
  refine sk_K.of (by decide +kernel) (Nat.le_of_ble_eq_true rfl) ?_
  show sk_S l E (d + 4) _ 0 [some (.ref 4), some (.ref b), some (.int (nI t)), some (.int 3), some (.int x)] [] h _
  refine sk_S.aload_n (i := 0) (dd DX6_hear 0 rfl) rfl rfl ?_
  refine sk_S.aload_n (i := 1) (dd DX6_hear 1 rfl) rfl rfl ?_
  refine sk_S.geti (dd DX6_hear 2 rfl) rfl fX6_15 hb (by decide) rfl ?_
  refine sk_S.putf (dd DX6_hear 3 rfl) rfl pX6_21 se_4 (by decide) rfl rfl rfl ?_
  refine sk_S.aload_n (i := 0) (dd DX6_hear 4 rfl) rfl rfl ?_
  refine sk_S.aload_n (i := 1) (dd DX6_hear 5 rfl) rfl rfl ?_
  refine sk_S.geti (dd DX6_hear 6 rfl) rfl fX6_22 hb (by decide) rfl ?_
  refine sk_S.putf (dd DX6_hear 7 rfl) rfl pX6_25 se_4 (by decide) rfl rfl rfl ?_
  refine sk_S.aload_n (i := 0) (dd DX6_hear 8 rfl) rfl rfl ?_
  refine sk_S.iload_n (i := 2) (dd DX6_hear 9 rfl) rfl rfl ?_
  refine sk_S.putf (dd DX6_hear 10 rfl) rfl pX6_26 se_4 (by decide) rfl rfl rfl ?_
  refine sk_S.aload_n (i := 0) (dd DX6_hear 11 rfl) rfl rfl ?_
  refine sk_S.iconst (v := 0) (dd DX6_hear 12 rfl) (by decide) ?_
  refine sk_S.putf (dd DX6_hear 13 rfl) rfl pX6_29 se_4 (by decide) rfl rfl rfl ?_
  refine sk_S.aload_n (i := 0) (dd DX6_hear 14 rfl) rfl rfl ?_
  refine sk_S.iconst (v := 0) (dd DX6_hear 15 rfl) (by decide) ?_
  refine sk_S.putf (dd DX6_hear 16 rfl) rfl pX6_32 se_4 (by decide) rfl rfl rfl ?_
  refine sk_S.aload_n (i := 0) (dd DX6_hear 17 rfl) rfl rfl ?_
  refine sk_S.aload_n (i := 0) (dd DX6_hear 18 rfl) rfl rfl ?_
  refine sk_S.geti (dd DX6_hear 19 rfl) rfl fX6_21 se_4 (by decide) rfl ?_
  refine sk_S.V 2 (by simp [sk_u_at, hb4, e0, e1]) ?_
  refine sk_S.iload_n (i := 3) (dd DX6_hear 20 rfl) rfl rfl ?_
  refine sk_S.iload (i := 4) (dd DX6_hear 21 rfl) rfl ?_
  refine sk_S.iconst (v := 0) (dd DX6_hear 22 rfl) (by decide) ?_
  have hV : voI (sk_u (sk_u (sk_u (sk_u (sk_u h 4 3 (h b 0)) 4 5 (sk_u h 4 3 (h b 0) b 1)) 4 4 (nI t)) 4 1 0) 4 2 0) 2 m t 0 := ⟨by simp [sk_u_at, hb4, e0, e1], by simp [sk_u_at, hb4, e0, e1], by simp [sk_u_at, hb4, e0, e1], by simp [sk_u_at, hb4, e0, e1], by rw [sk_u_at, if_pos rfl, if_neg (by decide), sk_u_at, if_pos rfl, if_pos rfl]; rfl⟩
  refine sk_S.callV (dd DX6_hear 23 rfl) rfl kX6_36 (cV_sp_2_2_3p (dep := 0) (by decide) (by decide) hV hp) se_4 (by decide) rfl rfl rfl rfl (Nat.le_of_ble_eq_true rfl) (fun r40 h40 q40 => ?_)
  obtain ⟨x40, rfl⟩ := q40
  show sk_S _ _ _ _ _ _ (.int _ :: _) _ _
  refine sk_S.iret (dd DX6_hear 24 rfl) rfl rfl ?_
  refine ⟨?_, ?_⟩
  · have e : voB 3 2 m (nI t) = [13] := by simp [voB, voCb, voPb, voHb, voLb, voRb, hp]
    rw [e]
    exact tcV.of (((((sk_o.rf.u (by decide)).u (by decide)).u (by decide)).u (by decide)).u (by decide)) x40
  · exact ⟨_, rfl⟩
set_option maxRecDepth 100000 in
set_option maxHeartbeats 1000000 in
theorem cV_he_3_0 {l : Launch} {E : sk_V} {d : Nat} {h : sk_M} {b t : Nat} {m x : Int32} (hb : sk_e b = (1, 0, 3, [])) (hb4 : ¬ b = 4) (e0 : h b 0 = 3) (e1 : h b 1 = m) : sk_K l E (d + 3) MX6_hear [.ref 4, .ref b, .int (nI t), .int 0, .int x] h (fun r h1 => tcV h h1 (voB 0 3 m (nI t)) 0 ∧ some (.int (voV 0 3 m (nI t) x)) = r) := by
  refine sk_K.of (by decide +kernel) (Nat.le_of_ble_eq_true rfl) ?_
  show sk_S l E (d + 3) _ 0 [some (.ref 4), some (.ref b), some (.int (nI t)), some (.int 0), some (.int x)] [] h _
  refine sk_S.aload_n (i := 0) (dd DX6_hear 0 rfl) rfl rfl ?_
  refine sk_S.aload_n (i := 1) (dd DX6_hear 1 rfl) rfl rfl ?_
  refine sk_S.geti (dd DX6_hear 2 rfl) rfl fX6_15 hb (by decide) rfl ?_
  refine sk_S.putf (dd DX6_hear 3 rfl) rfl pX6_21 se_4 (by decide) rfl rfl rfl ?_
  refine sk_S.aload_n (i := 0) (dd DX6_hear 4 rfl) rfl rfl ?_
  refine sk_S.aload_n (i := 1) (dd DX6_hear 5 rfl) rfl rfl ?_
  refine sk_S.geti (dd DX6_hear 6 rfl) rfl fX6_22 hb (by decide) rfl ?_
  refine sk_S.putf (dd DX6_hear 7 rfl) rfl pX6_25 se_4 (by decide) rfl rfl rfl ?_
  refine sk_S.aload_n (i := 0) (dd DX6_hear 8 rfl) rfl rfl ?_
  refine sk_S.iload_n (i := 2) (dd DX6_hear 9 rfl) rfl rfl ?_
  refine sk_S.putf (dd DX6_hear 10 rfl) rfl pX6_26 se_4 (by decide) rfl rfl rfl ?_
  refine sk_S.aload_n (i := 0) (dd DX6_hear 11 rfl) rfl rfl ?_
  refine sk_S.iconst (v := 0) (dd DX6_hear 12 rfl) (by decide) ?_
  refine sk_S.putf (dd DX6_hear 13 rfl) rfl pX6_29 se_4 (by decide) rfl rfl rfl ?_
  refine sk_S.aload_n (i := 0) (dd DX6_hear 14 rfl) rfl rfl ?_
  refine sk_S.iconst (v := 0) (dd DX6_hear 15 rfl) (by decide) ?_
  refine sk_S.putf (dd DX6_hear 16 rfl) rfl pX6_32 se_4 (by decide) rfl rfl rfl ?_
  refine sk_S.aload_n (i := 0) (dd DX6_hear 17 rfl) rfl rfl ?_
  refine sk_S.aload_n (i := 0) (dd DX6_hear 18 rfl) rfl rfl ?_
  refine sk_S.geti (dd DX6_hear 19 rfl) rfl fX6_21 se_4 (by decide) rfl ?_
  refine sk_S.V 3 (by simp [sk_u_at, hb4, e0, e1]) ?_
  refine sk_S.iload_n (i := 3) (dd DX6_hear 20 rfl) rfl rfl ?_
  refine sk_S.iload (i := 4) (dd DX6_hear 21 rfl) rfl ?_
  refine sk_S.iconst (v := 0) (dd DX6_hear 22 rfl) (by decide) ?_
  have hV : voI (sk_u (sk_u (sk_u (sk_u (sk_u h 4 3 (h b 0)) 4 5 (sk_u h 4 3 (h b 0) b 1)) 4 4 (nI t)) 4 1 0) 4 2 0) 3 m t 0 := ⟨by simp [sk_u_at, hb4, e0, e1], by simp [sk_u_at, hb4, e0, e1], by simp [sk_u_at, hb4, e0, e1], by simp [sk_u_at, hb4, e0, e1], by rw [sk_u_at, if_pos rfl, if_neg (by decide), sk_u_at, if_pos rfl, if_pos rfl]; rfl⟩
  refine sk_S.callV (dd DX6_hear 23 rfl) rfl kX6_36 (cV_sp_3_3_0 (dep := 0) (by decide) (by decide) hV) se_4 (by decide) rfl rfl rfl rfl (Nat.le_of_ble_eq_true rfl) (fun r40 h40 q40 => ?_)
  obtain ⟨x40, rfl⟩ := q40
  show sk_S _ _ _ _ _ _ (.int _ :: _) _ _
  refine sk_S.iret (dd DX6_hear 24 rfl) rfl rfl ?_
  refine ⟨?_, ?_⟩
  · have e : voB 0 3 m (nI t) = [10] := by simp [voB, voCb, voPb, voHb, voLb, voRb]
    rw [e]
    exact tcV.of (((((sk_o.rf.u (by decide)).u (by decide)).u (by decide)).u (by decide)).u (by decide)) x40
  · have e : voV 0 3 m (nI t) x = (x + nI t) := by simp [voV, voC, voP, voH, voL, voR]
    rw [e]
set_option maxRecDepth 100000 in
set_option maxHeartbeats 1000000 in
theorem cV_he_3_1 {l : Launch} {E : sk_V} {d : Nat} {h : sk_M} {b t : Nat} {m x : Int32} (hb : sk_e b = (1, 0, 3, [])) (hb4 : ¬ b = 4) (e0 : h b 0 = 3) (e1 : h b 1 = m) : sk_K l E (d + 6) MX6_hear [.ref 4, .ref b, .int (nI t), .int 1, .int x] h (fun r h1 => tcV h h1 (voB 1 3 m (nI t)) 0 ∧ some (.int (voV 1 3 m (nI t) x)) = r) := by
  refine sk_K.of (by decide +kernel) (Nat.le_of_ble_eq_true rfl) ?_
  show sk_S l E (d + 6) _ 0 [some (.ref 4), some (.ref b), some (.int (nI t)), some (.int 1), some (.int x)] [] h _
  refine sk_S.aload_n (i := 0) (dd DX6_hear 0 rfl) rfl rfl ?_
  refine sk_S.aload_n (i := 1) (dd DX6_hear 1 rfl) rfl rfl ?_
  refine sk_S.geti (dd DX6_hear 2 rfl) rfl fX6_15 hb (by decide) rfl ?_
  refine sk_S.putf (dd DX6_hear 3 rfl) rfl pX6_21 se_4 (by decide) rfl rfl rfl ?_
  refine sk_S.aload_n (i := 0) (dd DX6_hear 4 rfl) rfl rfl ?_
  refine sk_S.aload_n (i := 1) (dd DX6_hear 5 rfl) rfl rfl ?_
  refine sk_S.geti (dd DX6_hear 6 rfl) rfl fX6_22 hb (by decide) rfl ?_
  refine sk_S.putf (dd DX6_hear 7 rfl) rfl pX6_25 se_4 (by decide) rfl rfl rfl ?_
  refine sk_S.aload_n (i := 0) (dd DX6_hear 8 rfl) rfl rfl ?_
  refine sk_S.iload_n (i := 2) (dd DX6_hear 9 rfl) rfl rfl ?_
  refine sk_S.putf (dd DX6_hear 10 rfl) rfl pX6_26 se_4 (by decide) rfl rfl rfl ?_
  refine sk_S.aload_n (i := 0) (dd DX6_hear 11 rfl) rfl rfl ?_
  refine sk_S.iconst (v := 0) (dd DX6_hear 12 rfl) (by decide) ?_
  refine sk_S.putf (dd DX6_hear 13 rfl) rfl pX6_29 se_4 (by decide) rfl rfl rfl ?_
  refine sk_S.aload_n (i := 0) (dd DX6_hear 14 rfl) rfl rfl ?_
  refine sk_S.iconst (v := 0) (dd DX6_hear 15 rfl) (by decide) ?_
  refine sk_S.putf (dd DX6_hear 16 rfl) rfl pX6_32 se_4 (by decide) rfl rfl rfl ?_
  refine sk_S.aload_n (i := 0) (dd DX6_hear 17 rfl) rfl rfl ?_
  refine sk_S.aload_n (i := 0) (dd DX6_hear 18 rfl) rfl rfl ?_
  refine sk_S.geti (dd DX6_hear 19 rfl) rfl fX6_21 se_4 (by decide) rfl ?_
  refine sk_S.V 3 (by simp [sk_u_at, hb4, e0, e1]) ?_
  refine sk_S.iload_n (i := 3) (dd DX6_hear 20 rfl) rfl rfl ?_
  refine sk_S.iload (i := 4) (dd DX6_hear 21 rfl) rfl ?_
  refine sk_S.iconst (v := 0) (dd DX6_hear 22 rfl) (by decide) ?_
  have hV : voI (sk_u (sk_u (sk_u (sk_u (sk_u h 4 3 (h b 0)) 4 5 (sk_u h 4 3 (h b 0) b 1)) 4 4 (nI t)) 4 1 0) 4 2 0) 3 m t 0 := ⟨by simp [sk_u_at, hb4, e0, e1], by simp [sk_u_at, hb4, e0, e1], by simp [sk_u_at, hb4, e0, e1], by simp [sk_u_at, hb4, e0, e1], by rw [sk_u_at, if_pos rfl, if_neg (by decide), sk_u_at, if_pos rfl, if_pos rfl]; rfl⟩
  refine sk_S.callV (dd DX6_hear 23 rfl) rfl kX6_36 (cV_sp_3_3_1 (dep := 0) (by decide) (by decide) hV) se_4 (by decide) rfl rfl rfl rfl (Nat.le_of_ble_eq_true rfl) (fun r40 h40 q40 => ?_)
  obtain ⟨x40, rfl⟩ := q40
  show sk_S _ _ _ _ _ _ (.int _ :: _) _ _
  refine sk_S.iret (dd DX6_hear 24 rfl) rfl rfl ?_
  refine ⟨?_, ?_⟩
  · have e : voB 1 3 m (nI t) = [11, 10] := by simp [voB, voCb, voPb, voHb, voLb, voRb]
    rw [e]
    exact tcV.of (((((sk_o.rf.u (by decide)).u (by decide)).u (by decide)).u (by decide)).u (by decide)) x40
  · have e : voV 1 3 m (nI t) x = ((x + nI t) * 2) := by simp [voV, voC, voP, voH, voL, voR]
    rw [e]
set_option maxRecDepth 100000 in
set_option maxHeartbeats 1000000 in
theorem cV_he_3_2 {l : Launch} {E : sk_V} {d : Nat} {h : sk_M} {b t : Nat} {m x : Int32} (hb : sk_e b = (1, 0, 3, [])) (hb4 : ¬ b = 4) (e0 : h b 0 = 3) (e1 : h b 1 = m) : sk_K l E (d + 12) MX6_hear [.ref 4, .ref b, .int (nI t), .int 2, .int x] h (fun r h1 => tcV h h1 (voB 2 3 m (nI t)) 0 ∧ some (.int (voV 2 3 m (nI t) x)) = r) := by
  refine sk_K.of (by decide +kernel) (Nat.le_of_ble_eq_true rfl) ?_
  show sk_S l E (d + 12) _ 0 [some (.ref 4), some (.ref b), some (.int (nI t)), some (.int 2), some (.int x)] [] h _
  refine sk_S.aload_n (i := 0) (dd DX6_hear 0 rfl) rfl rfl ?_
  refine sk_S.aload_n (i := 1) (dd DX6_hear 1 rfl) rfl rfl ?_
  refine sk_S.geti (dd DX6_hear 2 rfl) rfl fX6_15 hb (by decide) rfl ?_
  refine sk_S.putf (dd DX6_hear 3 rfl) rfl pX6_21 se_4 (by decide) rfl rfl rfl ?_
  refine sk_S.aload_n (i := 0) (dd DX6_hear 4 rfl) rfl rfl ?_
  refine sk_S.aload_n (i := 1) (dd DX6_hear 5 rfl) rfl rfl ?_
  refine sk_S.geti (dd DX6_hear 6 rfl) rfl fX6_22 hb (by decide) rfl ?_
  refine sk_S.putf (dd DX6_hear 7 rfl) rfl pX6_25 se_4 (by decide) rfl rfl rfl ?_
  refine sk_S.aload_n (i := 0) (dd DX6_hear 8 rfl) rfl rfl ?_
  refine sk_S.iload_n (i := 2) (dd DX6_hear 9 rfl) rfl rfl ?_
  refine sk_S.putf (dd DX6_hear 10 rfl) rfl pX6_26 se_4 (by decide) rfl rfl rfl ?_
  refine sk_S.aload_n (i := 0) (dd DX6_hear 11 rfl) rfl rfl ?_
  refine sk_S.iconst (v := 0) (dd DX6_hear 12 rfl) (by decide) ?_
  refine sk_S.putf (dd DX6_hear 13 rfl) rfl pX6_29 se_4 (by decide) rfl rfl rfl ?_
  refine sk_S.aload_n (i := 0) (dd DX6_hear 14 rfl) rfl rfl ?_
  refine sk_S.iconst (v := 0) (dd DX6_hear 15 rfl) (by decide) ?_
  refine sk_S.putf (dd DX6_hear 16 rfl) rfl pX6_32 se_4 (by decide) rfl rfl rfl ?_
  refine sk_S.aload_n (i := 0) (dd DX6_hear 17 rfl) rfl rfl ?_
  refine sk_S.aload_n (i := 0) (dd DX6_hear 18 rfl) rfl rfl ?_
  refine sk_S.geti (dd DX6_hear 19 rfl) rfl fX6_21 se_4 (by decide) rfl ?_
  refine sk_S.V 3 (by simp [sk_u_at, hb4, e0, e1]) ?_
  refine sk_S.iload_n (i := 3) (dd DX6_hear 20 rfl) rfl rfl ?_
  refine sk_S.iload (i := 4) (dd DX6_hear 21 rfl) rfl ?_
  refine sk_S.iconst (v := 0) (dd DX6_hear 22 rfl) (by decide) ?_
  have hV : voI (sk_u (sk_u (sk_u (sk_u (sk_u h 4 3 (h b 0)) 4 5 (sk_u h 4 3 (h b 0) b 1)) 4 4 (nI t)) 4 1 0) 4 2 0) 3 m t 0 := ⟨by simp [sk_u_at, hb4, e0, e1], by simp [sk_u_at, hb4, e0, e1], by simp [sk_u_at, hb4, e0, e1], by simp [sk_u_at, hb4, e0, e1], by rw [sk_u_at, if_pos rfl, if_neg (by decide), sk_u_at, if_pos rfl, if_pos rfl]; rfl⟩
  refine sk_S.callV (dd DX6_hear 23 rfl) rfl kX6_36 (cV_sp_3_3_2 (dep := 0) (by decide) (by decide) hV) se_4 (by decide) rfl rfl rfl rfl (Nat.le_of_ble_eq_true rfl) (fun r40 h40 q40 => ?_)
  obtain ⟨x40, rfl⟩ := q40
  show sk_S _ _ _ _ _ _ (.int _ :: _) _ _
  refine sk_S.iret (dd DX6_hear 24 rfl) rfl rfl ?_
  refine ⟨?_, ?_⟩
  · have e : voB 2 3 m (nI t) = [40, 12, 11, 10] := by simp [voB, voCb, voPb, voHb, voLb, voRb]
    rw [e]
    exact tcV.of (((((sk_o.rf.u (by decide)).u (by decide)).u (by decide)).u (by decide)).u (by decide)) x40
  · have e : voV 2 3 m (nI t) x = ((((x / 2) + nI t) * 2) - m) := by simp [voV, voC, voP, voH, voL, voR]
    rw [e]
set_option maxRecDepth 100000 in
set_option maxHeartbeats 1000000 in
theorem cV_he_3_3 {l : Launch} {E : sk_V} {d : Nat} {h : sk_M} {b t : Nat} {m x : Int32} (hb : sk_e b = (1, 0, 3, [])) (hb4 : ¬ b = 4) (e0 : h b 0 = 3) (e1 : h b 1 = m) (hp : ¬ m - nI t = 0) : sk_K l E (d + 4) MX6_hear [.ref 4, .ref b, .int (nI t), .int 3, .int x] h (fun r h1 => tcV h h1 (voB 3 3 m (nI t)) 0 ∧ some (.int (voV 3 3 m (nI t) x)) = r) := by
  refine sk_K.of (by decide +kernel) (Nat.le_of_ble_eq_true rfl) ?_
  show sk_S l E (d + 4) _ 0 [some (.ref 4), some (.ref b), some (.int (nI t)), some (.int 3), some (.int x)] [] h _
  refine sk_S.aload_n (i := 0) (dd DX6_hear 0 rfl) rfl rfl ?_
  refine sk_S.aload_n (i := 1) (dd DX6_hear 1 rfl) rfl rfl ?_
  refine sk_S.geti (dd DX6_hear 2 rfl) rfl fX6_15 hb (by decide) rfl ?_
  refine sk_S.putf (dd DX6_hear 3 rfl) rfl pX6_21 se_4 (by decide) rfl rfl rfl ?_
  refine sk_S.aload_n (i := 0) (dd DX6_hear 4 rfl) rfl rfl ?_
  refine sk_S.aload_n (i := 1) (dd DX6_hear 5 rfl) rfl rfl ?_
  refine sk_S.geti (dd DX6_hear 6 rfl) rfl fX6_22 hb (by decide) rfl ?_
  refine sk_S.putf (dd DX6_hear 7 rfl) rfl pX6_25 se_4 (by decide) rfl rfl rfl ?_
  refine sk_S.aload_n (i := 0) (dd DX6_hear 8 rfl) rfl rfl ?_
  refine sk_S.iload_n (i := 2) (dd DX6_hear 9 rfl) rfl rfl ?_
  refine sk_S.putf (dd DX6_hear 10 rfl) rfl pX6_26 se_4 (by decide) rfl rfl rfl ?_
  refine sk_S.aload_n (i := 0) (dd DX6_hear 11 rfl) rfl rfl ?_
  refine sk_S.iconst (v := 0) (dd DX6_hear 12 rfl) (by decide) ?_
  refine sk_S.putf (dd DX6_hear 13 rfl) rfl pX6_29 se_4 (by decide) rfl rfl rfl ?_
  refine sk_S.aload_n (i := 0) (dd DX6_hear 14 rfl) rfl rfl ?_
  refine sk_S.iconst (v := 0) (dd DX6_hear 15 rfl) (by decide) ?_
  refine sk_S.putf (dd DX6_hear 16 rfl) rfl pX6_32 se_4 (by decide) rfl rfl rfl ?_
  refine sk_S.aload_n (i := 0) (dd DX6_hear 17 rfl) rfl rfl ?_
  refine sk_S.aload_n (i := 0) (dd DX6_hear 18 rfl) rfl rfl ?_
  refine sk_S.geti (dd DX6_hear 19 rfl) rfl fX6_21 se_4 (by decide) rfl ?_
  refine sk_S.V 3 (by simp [sk_u_at, hb4, e0, e1]) ?_
  refine sk_S.iload_n (i := 3) (dd DX6_hear 20 rfl) rfl rfl ?_
  refine sk_S.iload (i := 4) (dd DX6_hear 21 rfl) rfl ?_
  refine sk_S.iconst (v := 0) (dd DX6_hear 22 rfl) (by decide) ?_
  have hV : voI (sk_u (sk_u (sk_u (sk_u (sk_u h 4 3 (h b 0)) 4 5 (sk_u h 4 3 (h b 0) b 1)) 4 4 (nI t)) 4 1 0) 4 2 0) 3 m t 0 := ⟨by simp [sk_u_at, hb4, e0, e1], by simp [sk_u_at, hb4, e0, e1], by simp [sk_u_at, hb4, e0, e1], by simp [sk_u_at, hb4, e0, e1], by rw [sk_u_at, if_pos rfl, if_neg (by decide), sk_u_at, if_pos rfl, if_pos rfl]; rfl⟩
  refine sk_S.callV (dd DX6_hear 23 rfl) rfl kX6_36 (cV_sp_3_3_3 (dep := 0) (by decide) (by decide) hV hp) se_4 (by decide) rfl rfl rfl rfl (Nat.le_of_ble_eq_true rfl) (fun r40 h40 q40 => ?_)
  obtain ⟨x40, rfl⟩ := q40
  show sk_S _ _ _ _ _ _ (.int _ :: _) _ _
  refine sk_S.iret (dd DX6_hear 24 rfl) rfl rfl ?_
  refine ⟨?_, ?_⟩
  · have e : voB 3 3 m (nI t) = [13] := by simp [voB, voCb, voPb, voHb, voLb, voRb, hp]
    rw [e]
    exact tcV.of (((((sk_o.rf.u (by decide)).u (by decide)).u (by decide)).u (by decide)).u (by decide)) x40
  · have e : voV 3 3 m (nI t) x = (x / (m - nI t)) := by simp [voV, voC, voP, voH, voL, voR, hp]
    rw [e]
set_option maxRecDepth 100000 in
set_option maxHeartbeats 1000000 in
theorem cV_he_3_3p {l : Launch} {E : sk_V} {d : Nat} {h : sk_M} {b t : Nat} {m x : Int32} (hb : sk_e b = (1, 0, 3, [])) (hb4 : ¬ b = 4) (e0 : h b 0 = 3) (e1 : h b 1 = m) (hp : m - nI t = 0) : sk_K l E (d + 4) MX6_hear [.ref 4, .ref b, .int (nI t), .int 3, .int x] h (fun r h1 => tcV h h1 (voB 3 3 m (nI t)) 1 ∧ (∃ y : Int32, some (.int y) = r)) := by
  refine sk_K.of (by decide +kernel) (Nat.le_of_ble_eq_true rfl) ?_
  show sk_S l E (d + 4) _ 0 [some (.ref 4), some (.ref b), some (.int (nI t)), some (.int 3), some (.int x)] [] h _
  refine sk_S.aload_n (i := 0) (dd DX6_hear 0 rfl) rfl rfl ?_
  refine sk_S.aload_n (i := 1) (dd DX6_hear 1 rfl) rfl rfl ?_
  refine sk_S.geti (dd DX6_hear 2 rfl) rfl fX6_15 hb (by decide) rfl ?_
  refine sk_S.putf (dd DX6_hear 3 rfl) rfl pX6_21 se_4 (by decide) rfl rfl rfl ?_
  refine sk_S.aload_n (i := 0) (dd DX6_hear 4 rfl) rfl rfl ?_
  refine sk_S.aload_n (i := 1) (dd DX6_hear 5 rfl) rfl rfl ?_
  refine sk_S.geti (dd DX6_hear 6 rfl) rfl fX6_22 hb (by decide) rfl ?_
  refine sk_S.putf (dd DX6_hear 7 rfl) rfl pX6_25 se_4 (by decide) rfl rfl rfl ?_
  refine sk_S.aload_n (i := 0) (dd DX6_hear 8 rfl) rfl rfl ?_
  refine sk_S.iload_n (i := 2) (dd DX6_hear 9 rfl) rfl rfl ?_
  refine sk_S.putf (dd DX6_hear 10 rfl) rfl pX6_26 se_4 (by decide) rfl rfl rfl ?_
  refine sk_S.aload_n (i := 0) (dd DX6_hear 11 rfl) rfl rfl ?_
  refine sk_S.iconst (v := 0) (dd DX6_hear 12 rfl) (by decide) ?_
  refine sk_S.putf (dd DX6_hear 13 rfl) rfl pX6_29 se_4 (by decide) rfl rfl rfl ?_
  refine sk_S.aload_n (i := 0) (dd DX6_hear 14 rfl) rfl rfl ?_
  refine sk_S.iconst (v := 0) (dd DX6_hear 15 rfl) (by decide) ?_
  refine sk_S.putf (dd DX6_hear 16 rfl) rfl pX6_32 se_4 (by decide) rfl rfl rfl ?_
  refine sk_S.aload_n (i := 0) (dd DX6_hear 17 rfl) rfl rfl ?_
  refine sk_S.aload_n (i := 0) (dd DX6_hear 18 rfl) rfl rfl ?_
  refine sk_S.geti (dd DX6_hear 19 rfl) rfl fX6_21 se_4 (by decide) rfl ?_
  refine sk_S.V 3 (by simp [sk_u_at, hb4, e0, e1]) ?_
  refine sk_S.iload_n (i := 3) (dd DX6_hear 20 rfl) rfl rfl ?_
  refine sk_S.iload (i := 4) (dd DX6_hear 21 rfl) rfl ?_
  refine sk_S.iconst (v := 0) (dd DX6_hear 22 rfl) (by decide) ?_
  have hV : voI (sk_u (sk_u (sk_u (sk_u (sk_u h 4 3 (h b 0)) 4 5 (sk_u h 4 3 (h b 0) b 1)) 4 4 (nI t)) 4 1 0) 4 2 0) 3 m t 0 := ⟨by simp [sk_u_at, hb4, e0, e1], by simp [sk_u_at, hb4, e0, e1], by simp [sk_u_at, hb4, e0, e1], by simp [sk_u_at, hb4, e0, e1], by rw [sk_u_at, if_pos rfl, if_neg (by decide), sk_u_at, if_pos rfl, if_pos rfl]; rfl⟩
  refine sk_S.callV (dd DX6_hear 23 rfl) rfl kX6_36 (cV_sp_3_3_3p (dep := 0) (by decide) (by decide) hV hp) se_4 (by decide) rfl rfl rfl rfl (Nat.le_of_ble_eq_true rfl) (fun r40 h40 q40 => ?_)
  obtain ⟨x40, rfl⟩ := q40
  show sk_S _ _ _ _ _ _ (.int _ :: _) _ _
  refine sk_S.iret (dd DX6_hear 24 rfl) rfl rfl ?_
  refine ⟨?_, ?_⟩
  · have e : voB 3 3 m (nI t) = [13] := by simp [voB, voCb, voPb, voHb, voLb, voRb, hp]
    rw [e]
    exact tcV.of (((((sk_o.rf.u (by decide)).u (by decide)).u (by decide)).u (by decide)).u (by decide)) x40
  · exact ⟨_, rfl⟩
set_option maxRecDepth 100000 in
set_option maxHeartbeats 1000000 in
theorem cV_he_4_0 {l : Launch} {E : sk_V} {d : Nat} {h : sk_M} {b t : Nat} {m x : Int32} (hb : sk_e b = (1, 0, 3, [])) (hb4 : ¬ b = 4) (e0 : h b 0 = 4) (e1 : h b 1 = m) : sk_K l E (d + 9) MX6_hear [.ref 4, .ref b, .int (nI t), .int 0, .int x] h (fun r h1 => tcV h h1 (voB 0 4 m (nI t)) 0 ∧ some (.int (voV 0 4 m (nI t) x)) = r) := by
  refine sk_K.of (by decide +kernel) (Nat.le_of_ble_eq_true rfl) ?_
  show sk_S l E (d + 9) _ 0 [some (.ref 4), some (.ref b), some (.int (nI t)), some (.int 0), some (.int x)] [] h _
  refine sk_S.aload_n (i := 0) (dd DX6_hear 0 rfl) rfl rfl ?_
  refine sk_S.aload_n (i := 1) (dd DX6_hear 1 rfl) rfl rfl ?_
  refine sk_S.geti (dd DX6_hear 2 rfl) rfl fX6_15 hb (by decide) rfl ?_
  refine sk_S.putf (dd DX6_hear 3 rfl) rfl pX6_21 se_4 (by decide) rfl rfl rfl ?_
  refine sk_S.aload_n (i := 0) (dd DX6_hear 4 rfl) rfl rfl ?_
  refine sk_S.aload_n (i := 1) (dd DX6_hear 5 rfl) rfl rfl ?_
  refine sk_S.geti (dd DX6_hear 6 rfl) rfl fX6_22 hb (by decide) rfl ?_
  refine sk_S.putf (dd DX6_hear 7 rfl) rfl pX6_25 se_4 (by decide) rfl rfl rfl ?_
  refine sk_S.aload_n (i := 0) (dd DX6_hear 8 rfl) rfl rfl ?_
  refine sk_S.iload_n (i := 2) (dd DX6_hear 9 rfl) rfl rfl ?_
  refine sk_S.putf (dd DX6_hear 10 rfl) rfl pX6_26 se_4 (by decide) rfl rfl rfl ?_
  refine sk_S.aload_n (i := 0) (dd DX6_hear 11 rfl) rfl rfl ?_
  refine sk_S.iconst (v := 0) (dd DX6_hear 12 rfl) (by decide) ?_
  refine sk_S.putf (dd DX6_hear 13 rfl) rfl pX6_29 se_4 (by decide) rfl rfl rfl ?_
  refine sk_S.aload_n (i := 0) (dd DX6_hear 14 rfl) rfl rfl ?_
  refine sk_S.iconst (v := 0) (dd DX6_hear 15 rfl) (by decide) ?_
  refine sk_S.putf (dd DX6_hear 16 rfl) rfl pX6_32 se_4 (by decide) rfl rfl rfl ?_
  refine sk_S.aload_n (i := 0) (dd DX6_hear 17 rfl) rfl rfl ?_
  refine sk_S.aload_n (i := 0) (dd DX6_hear 18 rfl) rfl rfl ?_
  refine sk_S.geti (dd DX6_hear 19 rfl) rfl fX6_21 se_4 (by decide) rfl ?_
  refine sk_S.V 4 (by simp [sk_u_at, hb4, e0, e1]) ?_
  refine sk_S.iload_n (i := 3) (dd DX6_hear 20 rfl) rfl rfl ?_
  refine sk_S.iload (i := 4) (dd DX6_hear 21 rfl) rfl ?_
  refine sk_S.iconst (v := 0) (dd DX6_hear 22 rfl) (by decide) ?_
  have hV : voI (sk_u (sk_u (sk_u (sk_u (sk_u h 4 3 (h b 0)) 4 5 (sk_u h 4 3 (h b 0) b 1)) 4 4 (nI t)) 4 1 0) 4 2 0) 4 m t 0 := ⟨by simp [sk_u_at, hb4, e0, e1], by simp [sk_u_at, hb4, e0, e1], by simp [sk_u_at, hb4, e0, e1], by simp [sk_u_at, hb4, e0, e1], by rw [sk_u_at, if_pos rfl, if_neg (by decide), sk_u_at, if_pos rfl, if_pos rfl]; rfl⟩
  refine sk_S.callV (dd DX6_hear 23 rfl) rfl kX6_36 (cV_sp_4_4_0 (dep := 0) (by decide) (by decide) hV) se_4 (by decide) rfl rfl rfl rfl (Nat.le_of_ble_eq_true rfl) (fun r40 h40 q40 => ?_)
  obtain ⟨x40, rfl⟩ := q40
  show sk_S _ _ _ _ _ _ (.int _ :: _) _ _
  refine sk_S.iret (dd DX6_hear 24 rfl) rfl rfl ?_
  refine ⟨?_, ?_⟩
  · have e : voB 0 4 m (nI t) = [50, 20, 10] := by simp [voB, voCb, voPb, voHb, voLb, voRb]
    rw [e]
    exact tcV.of (((((sk_o.rf.u (by decide)).u (by decide)).u (by decide)).u (by decide)).u (by decide)) x40
  · have e : voV 0 4 m (nI t) x = (((x + nI t) - 4) * 3) := by simp [voV, voC, voP, voH, voL, voR]
    rw [e]
set_option maxRecDepth 100000 in
set_option maxHeartbeats 1000000 in
theorem cV_he_4_1 {l : Launch} {E : sk_V} {d : Nat} {h : sk_M} {b t : Nat} {m x : Int32} (hb : sk_e b = (1, 0, 3, [])) (hb4 : ¬ b = 4) (e0 : h b 0 = 4) (e1 : h b 1 = m) : sk_K l E (d + 12) MX6_hear [.ref 4, .ref b, .int (nI t), .int 1, .int x] h (fun r h1 => tcV h h1 (voB 1 4 m (nI t)) 0 ∧ some (.int (voV 1 4 m (nI t) x)) = r) := by
  refine sk_K.of (by decide +kernel) (Nat.le_of_ble_eq_true rfl) ?_
  show sk_S l E (d + 12) _ 0 [some (.ref 4), some (.ref b), some (.int (nI t)), some (.int 1), some (.int x)] [] h _
  refine sk_S.aload_n (i := 0) (dd DX6_hear 0 rfl) rfl rfl ?_
  refine sk_S.aload_n (i := 1) (dd DX6_hear 1 rfl) rfl rfl ?_
  refine sk_S.geti (dd DX6_hear 2 rfl) rfl fX6_15 hb (by decide) rfl ?_
  refine sk_S.putf (dd DX6_hear 3 rfl) rfl pX6_21 se_4 (by decide) rfl rfl rfl ?_
  refine sk_S.aload_n (i := 0) (dd DX6_hear 4 rfl) rfl rfl ?_
  refine sk_S.aload_n (i := 1) (dd DX6_hear 5 rfl) rfl rfl ?_
  refine sk_S.geti (dd DX6_hear 6 rfl) rfl fX6_22 hb (by decide) rfl ?_
  refine sk_S.putf (dd DX6_hear 7 rfl) rfl pX6_25 se_4 (by decide) rfl rfl rfl ?_
  refine sk_S.aload_n (i := 0) (dd DX6_hear 8 rfl) rfl rfl ?_
  refine sk_S.iload_n (i := 2) (dd DX6_hear 9 rfl) rfl rfl ?_
  refine sk_S.putf (dd DX6_hear 10 rfl) rfl pX6_26 se_4 (by decide) rfl rfl rfl ?_
  refine sk_S.aload_n (i := 0) (dd DX6_hear 11 rfl) rfl rfl ?_
  refine sk_S.iconst (v := 0) (dd DX6_hear 12 rfl) (by decide) ?_
  refine sk_S.putf (dd DX6_hear 13 rfl) rfl pX6_29 se_4 (by decide) rfl rfl rfl ?_
  refine sk_S.aload_n (i := 0) (dd DX6_hear 14 rfl) rfl rfl ?_
  refine sk_S.iconst (v := 0) (dd DX6_hear 15 rfl) (by decide) ?_
  refine sk_S.putf (dd DX6_hear 16 rfl) rfl pX6_32 se_4 (by decide) rfl rfl rfl ?_
  refine sk_S.aload_n (i := 0) (dd DX6_hear 17 rfl) rfl rfl ?_
  refine sk_S.aload_n (i := 0) (dd DX6_hear 18 rfl) rfl rfl ?_
  refine sk_S.geti (dd DX6_hear 19 rfl) rfl fX6_21 se_4 (by decide) rfl ?_
  refine sk_S.V 4 (by simp [sk_u_at, hb4, e0, e1]) ?_
  refine sk_S.iload_n (i := 3) (dd DX6_hear 20 rfl) rfl rfl ?_
  refine sk_S.iload (i := 4) (dd DX6_hear 21 rfl) rfl ?_
  refine sk_S.iconst (v := 0) (dd DX6_hear 22 rfl) (by decide) ?_
  have hV : voI (sk_u (sk_u (sk_u (sk_u (sk_u h 4 3 (h b 0)) 4 5 (sk_u h 4 3 (h b 0) b 1)) 4 4 (nI t)) 4 1 0) 4 2 0) 4 m t 0 := ⟨by simp [sk_u_at, hb4, e0, e1], by simp [sk_u_at, hb4, e0, e1], by simp [sk_u_at, hb4, e0, e1], by simp [sk_u_at, hb4, e0, e1], by rw [sk_u_at, if_pos rfl, if_neg (by decide), sk_u_at, if_pos rfl, if_pos rfl]; rfl⟩
  refine sk_S.callV (dd DX6_hear 23 rfl) rfl kX6_36 (cV_sp_4_4_1 (dep := 0) (by decide) (by decide) hV) se_4 (by decide) rfl rfl rfl rfl (Nat.le_of_ble_eq_true rfl) (fun r40 h40 q40 => ?_)
  obtain ⟨x40, rfl⟩ := q40
  show sk_S _ _ _ _ _ _ (.int _ :: _) _ _
  refine sk_S.iret (dd DX6_hear 24 rfl) rfl rfl ?_
  refine ⟨?_, ?_⟩
  · have e : voB 1 4 m (nI t) = [11, 50, 20, 10] := by simp [voB, voCb, voPb, voHb, voLb, voRb]
    rw [e]
    exact tcV.of (((((sk_o.rf.u (by decide)).u (by decide)).u (by decide)).u (by decide)).u (by decide)) x40
  · have e : voV 1 4 m (nI t) x = ((((x + nI t) - 4) * 3) * 2) := by simp [voV, voC, voP, voH, voL, voR]
    rw [e]
set_option maxRecDepth 100000 in
set_option maxHeartbeats 1000000 in
theorem cV_he_4_2 {l : Launch} {E : sk_V} {d : Nat} {h : sk_M} {b t : Nat} {m x : Int32} (hb : sk_e b = (1, 0, 3, [])) (hb4 : ¬ b = 4) (e0 : h b 0 = 4) (e1 : h b 1 = m) : sk_K l E (d + 18) MX6_hear [.ref 4, .ref b, .int (nI t), .int 2, .int x] h (fun r h1 => tcV h h1 (voB 2 4 m (nI t)) 0 ∧ some (.int (voV 2 4 m (nI t) x)) = r) := by
  refine sk_K.of (by decide +kernel) (Nat.le_of_ble_eq_true rfl) ?_
  show sk_S l E (d + 18) _ 0 [some (.ref 4), some (.ref b), some (.int (nI t)), some (.int 2), some (.int x)] [] h _
  refine sk_S.aload_n (i := 0) (dd DX6_hear 0 rfl) rfl rfl ?_
  refine sk_S.aload_n (i := 1) (dd DX6_hear 1 rfl) rfl rfl ?_
  refine sk_S.geti (dd DX6_hear 2 rfl) rfl fX6_15 hb (by decide) rfl ?_
  refine sk_S.putf (dd DX6_hear 3 rfl) rfl pX6_21 se_4 (by decide) rfl rfl rfl ?_
  refine sk_S.aload_n (i := 0) (dd DX6_hear 4 rfl) rfl rfl ?_
  refine sk_S.aload_n (i := 1) (dd DX6_hear 5 rfl) rfl rfl ?_
  refine sk_S.geti (dd DX6_hear 6 rfl) rfl fX6_22 hb (by decide) rfl ?_
  refine sk_S.putf (dd DX6_hear 7 rfl) rfl pX6_25 se_4 (by decide) rfl rfl rfl ?_
  refine sk_S.aload_n (i := 0) (dd DX6_hear 8 rfl) rfl rfl ?_
  refine sk_S.iload_n (i := 2) (dd DX6_hear 9 rfl) rfl rfl ?_
  refine sk_S.putf (dd DX6_hear 10 rfl) rfl pX6_26 se_4 (by decide) rfl rfl rfl ?_
  refine sk_S.aload_n (i := 0) (dd DX6_hear 11 rfl) rfl rfl ?_
  refine sk_S.iconst (v := 0) (dd DX6_hear 12 rfl) (by decide) ?_
  refine sk_S.putf (dd DX6_hear 13 rfl) rfl pX6_29 se_4 (by decide) rfl rfl rfl ?_
  refine sk_S.aload_n (i := 0) (dd DX6_hear 14 rfl) rfl rfl ?_
  refine sk_S.iconst (v := 0) (dd DX6_hear 15 rfl) (by decide) ?_
  refine sk_S.putf (dd DX6_hear 16 rfl) rfl pX6_32 se_4 (by decide) rfl rfl rfl ?_
  refine sk_S.aload_n (i := 0) (dd DX6_hear 17 rfl) rfl rfl ?_
  refine sk_S.aload_n (i := 0) (dd DX6_hear 18 rfl) rfl rfl ?_
  refine sk_S.geti (dd DX6_hear 19 rfl) rfl fX6_21 se_4 (by decide) rfl ?_
  refine sk_S.V 4 (by simp [sk_u_at, hb4, e0, e1]) ?_
  refine sk_S.iload_n (i := 3) (dd DX6_hear 20 rfl) rfl rfl ?_
  refine sk_S.iload (i := 4) (dd DX6_hear 21 rfl) rfl ?_
  refine sk_S.iconst (v := 0) (dd DX6_hear 22 rfl) (by decide) ?_
  have hV : voI (sk_u (sk_u (sk_u (sk_u (sk_u h 4 3 (h b 0)) 4 5 (sk_u h 4 3 (h b 0) b 1)) 4 4 (nI t)) 4 1 0) 4 2 0) 4 m t 0 := ⟨by simp [sk_u_at, hb4, e0, e1], by simp [sk_u_at, hb4, e0, e1], by simp [sk_u_at, hb4, e0, e1], by simp [sk_u_at, hb4, e0, e1], by rw [sk_u_at, if_pos rfl, if_neg (by decide), sk_u_at, if_pos rfl, if_pos rfl]; rfl⟩
  refine sk_S.callV (dd DX6_hear 23 rfl) rfl kX6_36 (cV_sp_4_4_2 (dep := 0) (by decide) (by decide) hV) se_4 (by decide) rfl rfl rfl rfl (Nat.le_of_ble_eq_true rfl) (fun r40 h40 q40 => ?_)
  obtain ⟨x40, rfl⟩ := q40
  show sk_S _ _ _ _ _ _ (.int _ :: _) _ _
  refine sk_S.iret (dd DX6_hear 24 rfl) rfl rfl ?_
  refine ⟨?_, ?_⟩
  · have e : voB 2 4 m (nI t) = [51, 12, 11, 50, 20, 10] := by simp [voB, voCb, voPb, voHb, voLb, voRb]
    rw [e]
    exact tcV.of (((((sk_o.rf.u (by decide)).u (by decide)).u (by decide)).u (by decide)).u (by decide)) x40
  · have e : voV 2 4 m (nI t) x = ((((((x + nI t) - 4) * 3) * 2) - m) ^^^ nI t) := by simp [voV, voC, voP, voH, voL, voR]
    rw [e]
set_option maxRecDepth 100000 in
set_option maxHeartbeats 1000000 in
theorem cV_he_4_3 {l : Launch} {E : sk_V} {d : Nat} {h : sk_M} {b t : Nat} {m x : Int32} (hb : sk_e b = (1, 0, 3, [])) (hb4 : ¬ b = 4) (e0 : h b 0 = 4) (e1 : h b 1 = m) (hp : ¬ m - nI t = 0) : sk_K l E (d + 15) MX6_hear [.ref 4, .ref b, .int (nI t), .int 3, .int x] h (fun r h1 => tcV h h1 (voB 3 4 m (nI t)) 0 ∧ some (.int (voV 3 4 m (nI t) x)) = r) := by
  refine sk_K.of (by decide +kernel) (Nat.le_of_ble_eq_true rfl) ?_
  show sk_S l E (d + 15) _ 0 [some (.ref 4), some (.ref b), some (.int (nI t)), some (.int 3), some (.int x)] [] h _
  refine sk_S.aload_n (i := 0) (dd DX6_hear 0 rfl) rfl rfl ?_
  refine sk_S.aload_n (i := 1) (dd DX6_hear 1 rfl) rfl rfl ?_
  refine sk_S.geti (dd DX6_hear 2 rfl) rfl fX6_15 hb (by decide) rfl ?_
  refine sk_S.putf (dd DX6_hear 3 rfl) rfl pX6_21 se_4 (by decide) rfl rfl rfl ?_
  refine sk_S.aload_n (i := 0) (dd DX6_hear 4 rfl) rfl rfl ?_
  refine sk_S.aload_n (i := 1) (dd DX6_hear 5 rfl) rfl rfl ?_
  refine sk_S.geti (dd DX6_hear 6 rfl) rfl fX6_22 hb (by decide) rfl ?_
  refine sk_S.putf (dd DX6_hear 7 rfl) rfl pX6_25 se_4 (by decide) rfl rfl rfl ?_
  refine sk_S.aload_n (i := 0) (dd DX6_hear 8 rfl) rfl rfl ?_
  refine sk_S.iload_n (i := 2) (dd DX6_hear 9 rfl) rfl rfl ?_
  refine sk_S.putf (dd DX6_hear 10 rfl) rfl pX6_26 se_4 (by decide) rfl rfl rfl ?_
  refine sk_S.aload_n (i := 0) (dd DX6_hear 11 rfl) rfl rfl ?_
  refine sk_S.iconst (v := 0) (dd DX6_hear 12 rfl) (by decide) ?_
  refine sk_S.putf (dd DX6_hear 13 rfl) rfl pX6_29 se_4 (by decide) rfl rfl rfl ?_
  refine sk_S.aload_n (i := 0) (dd DX6_hear 14 rfl) rfl rfl ?_
  refine sk_S.iconst (v := 0) (dd DX6_hear 15 rfl) (by decide) ?_
  refine sk_S.putf (dd DX6_hear 16 rfl) rfl pX6_32 se_4 (by decide) rfl rfl rfl ?_
  refine sk_S.aload_n (i := 0) (dd DX6_hear 17 rfl) rfl rfl ?_
  refine sk_S.aload_n (i := 0) (dd DX6_hear 18 rfl) rfl rfl ?_
  refine sk_S.geti (dd DX6_hear 19 rfl) rfl fX6_21 se_4 (by decide) rfl ?_
  refine sk_S.V 4 (by simp [sk_u_at, hb4, e0, e1]) ?_
  refine sk_S.iload_n (i := 3) (dd DX6_hear 20 rfl) rfl rfl ?_
  refine sk_S.iload (i := 4) (dd DX6_hear 21 rfl) rfl ?_
  refine sk_S.iconst (v := 0) (dd DX6_hear 22 rfl) (by decide) ?_
  have hV : voI (sk_u (sk_u (sk_u (sk_u (sk_u h 4 3 (h b 0)) 4 5 (sk_u h 4 3 (h b 0) b 1)) 4 4 (nI t)) 4 1 0) 4 2 0) 4 m t 0 := ⟨by simp [sk_u_at, hb4, e0, e1], by simp [sk_u_at, hb4, e0, e1], by simp [sk_u_at, hb4, e0, e1], by simp [sk_u_at, hb4, e0, e1], by rw [sk_u_at, if_pos rfl, if_neg (by decide), sk_u_at, if_pos rfl, if_pos rfl]; rfl⟩
  refine sk_S.callV (dd DX6_hear 23 rfl) rfl kX6_36 (cV_sp_4_4_3 (dep := 0) (by decide) (by decide) hV hp) se_4 (by decide) rfl rfl rfl rfl (Nat.le_of_ble_eq_true rfl) (fun r40 h40 q40 => ?_)
  obtain ⟨x40, rfl⟩ := q40
  show sk_S _ _ _ _ _ _ (.int _ :: _) _ _
  refine sk_S.iret (dd DX6_hear 24 rfl) rfl rfl ?_
  refine ⟨?_, ?_⟩
  · have e : voB 3 4 m (nI t) = [21, 13, 11, 50, 20, 10] := by simp [voB, voCb, voPb, voHb, voLb, voRb, hp]
    rw [e]
    exact tcV.of (((((sk_o.rf.u (by decide)).u (by decide)).u (by decide)).u (by decide)).u (by decide)) x40
  · have e : voV 3 4 m (nI t) x = ((x / (m - nI t)) + ((((1 + nI t) - 4) * 3) * 2)) := by simp [voV, voC, voP, voH, voL, voR, hp]
    rw [e]
set_option maxRecDepth 100000 in
set_option maxHeartbeats 1000000 in
theorem cV_he_4_3p {l : Launch} {E : sk_V} {d : Nat} {h : sk_M} {b t : Nat} {m x : Int32} (hb : sk_e b = (1, 0, 3, [])) (hb4 : ¬ b = 4) (e0 : h b 0 = 4) (e1 : h b 1 = m) (hp : m - nI t = 0) : sk_K l E (d + 7) MX6_hear [.ref 4, .ref b, .int (nI t), .int 3, .int x] h (fun r h1 => tcV h h1 (voB 3 4 m (nI t)) 1 ∧ (∃ y : Int32, some (.int y) = r)) := by
  refine sk_K.of (by decide +kernel) (Nat.le_of_ble_eq_true rfl) ?_
  show sk_S l E (d + 7) _ 0 [some (.ref 4), some (.ref b), some (.int (nI t)), some (.int 3), some (.int x)] [] h _
  refine sk_S.aload_n (i := 0) (dd DX6_hear 0 rfl) rfl rfl ?_
  refine sk_S.aload_n (i := 1) (dd DX6_hear 1 rfl) rfl rfl ?_
  refine sk_S.geti (dd DX6_hear 2 rfl) rfl fX6_15 hb (by decide) rfl ?_
  refine sk_S.putf (dd DX6_hear 3 rfl) rfl pX6_21 se_4 (by decide) rfl rfl rfl ?_
  refine sk_S.aload_n (i := 0) (dd DX6_hear 4 rfl) rfl rfl ?_
  refine sk_S.aload_n (i := 1) (dd DX6_hear 5 rfl) rfl rfl ?_
  refine sk_S.geti (dd DX6_hear 6 rfl) rfl fX6_22 hb (by decide) rfl ?_
  refine sk_S.putf (dd DX6_hear 7 rfl) rfl pX6_25 se_4 (by decide) rfl rfl rfl ?_
  refine sk_S.aload_n (i := 0) (dd DX6_hear 8 rfl) rfl rfl ?_
  refine sk_S.iload_n (i := 2) (dd DX6_hear 9 rfl) rfl rfl ?_
  refine sk_S.putf (dd DX6_hear 10 rfl) rfl pX6_26 se_4 (by decide) rfl rfl rfl ?_
  refine sk_S.aload_n (i := 0) (dd DX6_hear 11 rfl) rfl rfl ?_
  refine sk_S.iconst (v := 0) (dd DX6_hear 12 rfl) (by decide) ?_
  refine sk_S.putf (dd DX6_hear 13 rfl) rfl pX6_29 se_4 (by decide) rfl rfl rfl ?_
  refine sk_S.aload_n (i := 0) (dd DX6_hear 14 rfl) rfl rfl ?_
  refine sk_S.iconst (v := 0) (dd DX6_hear 15 rfl) (by decide) ?_
  refine sk_S.putf (dd DX6_hear 16 rfl) rfl pX6_32 se_4 (by decide) rfl rfl rfl ?_
  refine sk_S.aload_n (i := 0) (dd DX6_hear 17 rfl) rfl rfl ?_
  refine sk_S.aload_n (i := 0) (dd DX6_hear 18 rfl) rfl rfl ?_
  refine sk_S.geti (dd DX6_hear 19 rfl) rfl fX6_21 se_4 (by decide) rfl ?_
  refine sk_S.V 4 (by simp [sk_u_at, hb4, e0, e1]) ?_
  refine sk_S.iload_n (i := 3) (dd DX6_hear 20 rfl) rfl rfl ?_
  refine sk_S.iload (i := 4) (dd DX6_hear 21 rfl) rfl ?_
  refine sk_S.iconst (v := 0) (dd DX6_hear 22 rfl) (by decide) ?_
  have hV : voI (sk_u (sk_u (sk_u (sk_u (sk_u h 4 3 (h b 0)) 4 5 (sk_u h 4 3 (h b 0) b 1)) 4 4 (nI t)) 4 1 0) 4 2 0) 4 m t 0 := ⟨by simp [sk_u_at, hb4, e0, e1], by simp [sk_u_at, hb4, e0, e1], by simp [sk_u_at, hb4, e0, e1], by simp [sk_u_at, hb4, e0, e1], by rw [sk_u_at, if_pos rfl, if_neg (by decide), sk_u_at, if_pos rfl, if_pos rfl]; rfl⟩
  refine sk_S.callV (dd DX6_hear 23 rfl) rfl kX6_36 (cV_sp_4_4_3p (dep := 0) (by decide) (by decide) hV hp) se_4 (by decide) rfl rfl rfl rfl (Nat.le_of_ble_eq_true rfl) (fun r40 h40 q40 => ?_)
  obtain ⟨x40, rfl⟩ := q40
  show sk_S _ _ _ _ _ _ (.int _ :: _) _ _
  refine sk_S.iret (dd DX6_hear 24 rfl) rfl rfl ?_
  refine ⟨?_, ?_⟩
  · have e : voB 3 4 m (nI t) = [21, 13] := by simp [voB, voCb, voPb, voHb, voLb, voRb, hp]
    rw [e]
    exact tcV.of (((((sk_o.rf.u (by decide)).u (by decide)).u (by decide)).u (by decide)).u (by decide)) x40
  · exact ⟨_, rfl⟩
set_option maxRecDepth 100000 in
set_option maxHeartbeats 1000000 in
theorem cV_he_5_0 {l : Launch} {E : sk_V} {d : Nat} {h : sk_M} {b t : Nat} {m x : Int32} (hb : sk_e b = (1, 0, 3, [])) (hb4 : ¬ b = 4) (e0 : h b 0 = 5) (e1 : h b 1 = m) : sk_K l E (d + 3) MX6_hear [.ref 4, .ref b, .int (nI t), .int 0, .int x] h (fun r h1 => tcV h h1 (voB 0 5 m (nI t)) 0 ∧ some (.int (voV 0 5 m (nI t) x)) = r) := by
  refine sk_K.of (by decide +kernel) (Nat.le_of_ble_eq_true rfl) ?_
  show sk_S l E (d + 3) _ 0 [some (.ref 4), some (.ref b), some (.int (nI t)), some (.int 0), some (.int x)] [] h _
  refine sk_S.aload_n (i := 0) (dd DX6_hear 0 rfl) rfl rfl ?_
  refine sk_S.aload_n (i := 1) (dd DX6_hear 1 rfl) rfl rfl ?_
  refine sk_S.geti (dd DX6_hear 2 rfl) rfl fX6_15 hb (by decide) rfl ?_
  refine sk_S.putf (dd DX6_hear 3 rfl) rfl pX6_21 se_4 (by decide) rfl rfl rfl ?_
  refine sk_S.aload_n (i := 0) (dd DX6_hear 4 rfl) rfl rfl ?_
  refine sk_S.aload_n (i := 1) (dd DX6_hear 5 rfl) rfl rfl ?_
  refine sk_S.geti (dd DX6_hear 6 rfl) rfl fX6_22 hb (by decide) rfl ?_
  refine sk_S.putf (dd DX6_hear 7 rfl) rfl pX6_25 se_4 (by decide) rfl rfl rfl ?_
  refine sk_S.aload_n (i := 0) (dd DX6_hear 8 rfl) rfl rfl ?_
  refine sk_S.iload_n (i := 2) (dd DX6_hear 9 rfl) rfl rfl ?_
  refine sk_S.putf (dd DX6_hear 10 rfl) rfl pX6_26 se_4 (by decide) rfl rfl rfl ?_
  refine sk_S.aload_n (i := 0) (dd DX6_hear 11 rfl) rfl rfl ?_
  refine sk_S.iconst (v := 0) (dd DX6_hear 12 rfl) (by decide) ?_
  refine sk_S.putf (dd DX6_hear 13 rfl) rfl pX6_29 se_4 (by decide) rfl rfl rfl ?_
  refine sk_S.aload_n (i := 0) (dd DX6_hear 14 rfl) rfl rfl ?_
  refine sk_S.iconst (v := 0) (dd DX6_hear 15 rfl) (by decide) ?_
  refine sk_S.putf (dd DX6_hear 16 rfl) rfl pX6_32 se_4 (by decide) rfl rfl rfl ?_
  refine sk_S.aload_n (i := 0) (dd DX6_hear 17 rfl) rfl rfl ?_
  refine sk_S.aload_n (i := 0) (dd DX6_hear 18 rfl) rfl rfl ?_
  refine sk_S.geti (dd DX6_hear 19 rfl) rfl fX6_21 se_4 (by decide) rfl ?_
  refine sk_S.V 5 (by simp [sk_u_at, hb4, e0, e1]) ?_
  refine sk_S.iload_n (i := 3) (dd DX6_hear 20 rfl) rfl rfl ?_
  refine sk_S.iload (i := 4) (dd DX6_hear 21 rfl) rfl ?_
  refine sk_S.iconst (v := 0) (dd DX6_hear 22 rfl) (by decide) ?_
  have hV : voI (sk_u (sk_u (sk_u (sk_u (sk_u h 4 3 (h b 0)) 4 5 (sk_u h 4 3 (h b 0) b 1)) 4 4 (nI t)) 4 1 0) 4 2 0) 5 m t 0 := ⟨by simp [sk_u_at, hb4, e0, e1], by simp [sk_u_at, hb4, e0, e1], by simp [sk_u_at, hb4, e0, e1], by simp [sk_u_at, hb4, e0, e1], by rw [sk_u_at, if_pos rfl, if_neg (by decide), sk_u_at, if_pos rfl, if_pos rfl]; rfl⟩
  refine sk_S.callV (dd DX6_hear 23 rfl) rfl kX6_36 (cV_sp_5_5_0 (dep := 0) (by decide) (by decide) hV) se_4 (by decide) rfl rfl rfl rfl (Nat.le_of_ble_eq_true rfl) (fun r40 h40 q40 => ?_)
  obtain ⟨x40, rfl⟩ := q40
  show sk_S _ _ _ _ _ _ (.int _ :: _) _ _
  refine sk_S.iret (dd DX6_hear 24 rfl) rfl rfl ?_
  refine ⟨?_, ?_⟩
  · have e : voB 0 5 m (nI t) = [10] := by simp [voB, voCb, voPb, voHb, voLb, voRb]
    rw [e]
    exact tcV.of (((((sk_o.rf.u (by decide)).u (by decide)).u (by decide)).u (by decide)).u (by decide)) x40
  · have e : voV 0 5 m (nI t) x = (x + nI t) := by simp [voV, voC, voP, voH, voL, voR]
    rw [e]
set_option maxRecDepth 100000 in
set_option maxHeartbeats 1000000 in
theorem cV_he_5_1 {l : Launch} {E : sk_V} {d : Nat} {h : sk_M} {b t : Nat} {m x : Int32} (hb : sk_e b = (1, 0, 3, [])) (hb4 : ¬ b = 4) (e0 : h b 0 = 5) (e1 : h b 1 = m) : sk_K l E (d + 12) MX6_hear [.ref 4, .ref b, .int (nI t), .int 1, .int x] h (fun r h1 => tcV h h1 (voB 1 5 m (nI t)) 0 ∧ some (.int (voV 1 5 m (nI t) x)) = r) := by
  refine sk_K.of (by decide +kernel) (Nat.le_of_ble_eq_true rfl) ?_
  show sk_S l E (d + 12) _ 0 [some (.ref 4), some (.ref b), some (.int (nI t)), some (.int 1), some (.int x)] [] h _
  refine sk_S.aload_n (i := 0) (dd DX6_hear 0 rfl) rfl rfl ?_
  refine sk_S.aload_n (i := 1) (dd DX6_hear 1 rfl) rfl rfl ?_
  refine sk_S.geti (dd DX6_hear 2 rfl) rfl fX6_15 hb (by decide) rfl ?_
  refine sk_S.putf (dd DX6_hear 3 rfl) rfl pX6_21 se_4 (by decide) rfl rfl rfl ?_
  refine sk_S.aload_n (i := 0) (dd DX6_hear 4 rfl) rfl rfl ?_
  refine sk_S.aload_n (i := 1) (dd DX6_hear 5 rfl) rfl rfl ?_
  refine sk_S.geti (dd DX6_hear 6 rfl) rfl fX6_22 hb (by decide) rfl ?_
  refine sk_S.putf (dd DX6_hear 7 rfl) rfl pX6_25 se_4 (by decide) rfl rfl rfl ?_
  refine sk_S.aload_n (i := 0) (dd DX6_hear 8 rfl) rfl rfl ?_
  refine sk_S.iload_n (i := 2) (dd DX6_hear 9 rfl) rfl rfl ?_
  refine sk_S.putf (dd DX6_hear 10 rfl) rfl pX6_26 se_4 (by decide) rfl rfl rfl ?_
  refine sk_S.aload_n (i := 0) (dd DX6_hear 11 rfl) rfl rfl ?_
  refine sk_S.iconst (v := 0) (dd DX6_hear 12 rfl) (by decide) ?_
  refine sk_S.putf (dd DX6_hear 13 rfl) rfl pX6_29 se_4 (by decide) rfl rfl rfl ?_
  refine sk_S.aload_n (i := 0) (dd DX6_hear 14 rfl) rfl rfl ?_
  refine sk_S.iconst (v := 0) (dd DX6_hear 15 rfl) (by decide) ?_
  refine sk_S.putf (dd DX6_hear 16 rfl) rfl pX6_32 se_4 (by decide) rfl rfl rfl ?_
  refine sk_S.aload_n (i := 0) (dd DX6_hear 17 rfl) rfl rfl ?_
  refine sk_S.aload_n (i := 0) (dd DX6_hear 18 rfl) rfl rfl ?_
  refine sk_S.geti (dd DX6_hear 19 rfl) rfl fX6_21 se_4 (by decide) rfl ?_
  refine sk_S.V 5 (by simp [sk_u_at, hb4, e0, e1]) ?_
  refine sk_S.iload_n (i := 3) (dd DX6_hear 20 rfl) rfl rfl ?_
  refine sk_S.iload (i := 4) (dd DX6_hear 21 rfl) rfl ?_
  refine sk_S.iconst (v := 0) (dd DX6_hear 22 rfl) (by decide) ?_
  have hV : voI (sk_u (sk_u (sk_u (sk_u (sk_u h 4 3 (h b 0)) 4 5 (sk_u h 4 3 (h b 0) b 1)) 4 4 (nI t)) 4 1 0) 4 2 0) 5 m t 0 := ⟨by simp [sk_u_at, hb4, e0, e1], by simp [sk_u_at, hb4, e0, e1], by simp [sk_u_at, hb4, e0, e1], by simp [sk_u_at, hb4, e0, e1], by rw [sk_u_at, if_pos rfl, if_neg (by decide), sk_u_at, if_pos rfl, if_pos rfl]; rfl⟩
  refine sk_S.callV (dd DX6_hear 23 rfl) rfl kX6_36 (cV_sp_5_5_1 (dep := 0) (by decide) (by decide) hV) se_4 (by decide) rfl rfl rfl rfl (Nat.le_of_ble_eq_true rfl) (fun r40 h40 q40 => ?_)
  obtain ⟨x40, rfl⟩ := q40
  show sk_S _ _ _ _ _ _ (.int _ :: _) _ _
  refine sk_S.iret (dd DX6_hear 24 rfl) rfl rfl ?_
  refine ⟨?_, ?_⟩
  · have e : voB 1 5 m (nI t) = [60, 30, 11, 10] := by simp [voB, voCb, voPb, voHb, voLb, voRb]
    rw [e]
    exact tcV.of (((((sk_o.rf.u (by decide)).u (by decide)).u (by decide)).u (by decide)).u (by decide)) x40
  · have e : voV 1 5 m (nI t) x = (0 - (((x + 1) + nI t) * 2)) := by simp [voV, voC, voP, voH, voL, voR]
    rw [e]
set_option maxRecDepth 100000 in
set_option maxHeartbeats 1000000 in
theorem cV_he_5_2 {l : Launch} {E : sk_V} {d : Nat} {h : sk_M} {b t : Nat} {m x : Int32} (hb : sk_e b = (1, 0, 3, [])) (hb4 : ¬ b = 4) (e0 : h b 0 = 5) (e1 : h b 1 = m) : sk_K l E (d + 15) MX6_hear [.ref 4, .ref b, .int (nI t), .int 2, .int x] h (fun r h1 => tcV h h1 (voB 2 5 m (nI t)) 0 ∧ some (.int (voV 2 5 m (nI t) x)) = r) := by
  refine sk_K.of (by decide +kernel) (Nat.le_of_ble_eq_true rfl) ?_
  show sk_S l E (d + 15) _ 0 [some (.ref 4), some (.ref b), some (.int (nI t)), some (.int 2), some (.int x)] [] h _
  refine sk_S.aload_n (i := 0) (dd DX6_hear 0 rfl) rfl rfl ?_
  refine sk_S.aload_n (i := 1) (dd DX6_hear 1 rfl) rfl rfl ?_
  refine sk_S.geti (dd DX6_hear 2 rfl) rfl fX6_15 hb (by decide) rfl ?_
  refine sk_S.putf (dd DX6_hear 3 rfl) rfl pX6_21 se_4 (by decide) rfl rfl rfl ?_
  refine sk_S.aload_n (i := 0) (dd DX6_hear 4 rfl) rfl rfl ?_
  refine sk_S.aload_n (i := 1) (dd DX6_hear 5 rfl) rfl rfl ?_
  refine sk_S.geti (dd DX6_hear 6 rfl) rfl fX6_22 hb (by decide) rfl ?_
  refine sk_S.putf (dd DX6_hear 7 rfl) rfl pX6_25 se_4 (by decide) rfl rfl rfl ?_
  refine sk_S.aload_n (i := 0) (dd DX6_hear 8 rfl) rfl rfl ?_
  refine sk_S.iload_n (i := 2) (dd DX6_hear 9 rfl) rfl rfl ?_
  refine sk_S.putf (dd DX6_hear 10 rfl) rfl pX6_26 se_4 (by decide) rfl rfl rfl ?_
  refine sk_S.aload_n (i := 0) (dd DX6_hear 11 rfl) rfl rfl ?_
  refine sk_S.iconst (v := 0) (dd DX6_hear 12 rfl) (by decide) ?_
  refine sk_S.putf (dd DX6_hear 13 rfl) rfl pX6_29 se_4 (by decide) rfl rfl rfl ?_
  refine sk_S.aload_n (i := 0) (dd DX6_hear 14 rfl) rfl rfl ?_
  refine sk_S.iconst (v := 0) (dd DX6_hear 15 rfl) (by decide) ?_
  refine sk_S.putf (dd DX6_hear 16 rfl) rfl pX6_32 se_4 (by decide) rfl rfl rfl ?_
  refine sk_S.aload_n (i := 0) (dd DX6_hear 17 rfl) rfl rfl ?_
  refine sk_S.aload_n (i := 0) (dd DX6_hear 18 rfl) rfl rfl ?_
  refine sk_S.geti (dd DX6_hear 19 rfl) rfl fX6_21 se_4 (by decide) rfl ?_
  refine sk_S.V 5 (by simp [sk_u_at, hb4, e0, e1]) ?_
  refine sk_S.iload_n (i := 3) (dd DX6_hear 20 rfl) rfl rfl ?_
  refine sk_S.iload (i := 4) (dd DX6_hear 21 rfl) rfl ?_
  refine sk_S.iconst (v := 0) (dd DX6_hear 22 rfl) (by decide) ?_
  have hV : voI (sk_u (sk_u (sk_u (sk_u (sk_u h 4 3 (h b 0)) 4 5 (sk_u h 4 3 (h b 0) b 1)) 4 4 (nI t)) 4 1 0) 4 2 0) 5 m t 0 := ⟨by simp [sk_u_at, hb4, e0, e1], by simp [sk_u_at, hb4, e0, e1], by simp [sk_u_at, hb4, e0, e1], by simp [sk_u_at, hb4, e0, e1], by rw [sk_u_at, if_pos rfl, if_neg (by decide), sk_u_at, if_pos rfl, if_pos rfl]; rfl⟩
  refine sk_S.callV (dd DX6_hear 23 rfl) rfl kX6_36 (cV_sp_5_5_2 (dep := 0) (by decide) (by decide) hV) se_4 (by decide) rfl rfl rfl rfl (Nat.le_of_ble_eq_true rfl) (fun r40 h40 q40 => ?_)
  obtain ⟨x40, rfl⟩ := q40
  show sk_S _ _ _ _ _ _ (.int _ :: _) _ _
  refine sk_S.iret (dd DX6_hear 24 rfl) rfl rfl ?_
  refine ⟨?_, ?_⟩
  · have e : voB 2 5 m (nI t) = [12, 60, 30, 11, 10] := by simp [voB, voCb, voPb, voHb, voLb, voRb]
    rw [e]
    exact tcV.of (((((sk_o.rf.u (by decide)).u (by decide)).u (by decide)).u (by decide)).u (by decide)) x40
  · have e : voV 2 5 m (nI t) x = ((0 - (((x + 1) + nI t) * 2)) - m) := by simp [voV, voC, voP, voH, voL, voR]
    rw [e]
set_option maxRecDepth 100000 in
set_option maxHeartbeats 1000000 in
theorem cV_he_5_3 {l : Launch} {E : sk_V} {d : Nat} {h : sk_M} {b t : Nat} {m x : Int32} (hb : sk_e b = (1, 0, 3, [])) (hb4 : ¬ b = 4) (e0 : h b 0 = 5) (e1 : h b 1 = m) (hp : ¬ m - nI t = 0) : sk_K l E (d + 4) MX6_hear [.ref 4, .ref b, .int (nI t), .int 3, .int x] h (fun r h1 => tcV h h1 (voB 3 5 m (nI t)) 0 ∧ some (.int (voV 3 5 m (nI t) x)) = r) := by
  refine sk_K.of (by decide +kernel) (Nat.le_of_ble_eq_true rfl) ?_
  show sk_S l E (d + 4) _ 0 [some (.ref 4), some (.ref b), some (.int (nI t)), some (.int 3), some (.int x)] [] h _
  refine sk_S.aload_n (i := 0) (dd DX6_hear 0 rfl) rfl rfl ?_
  refine sk_S.aload_n (i := 1) (dd DX6_hear 1 rfl) rfl rfl ?_
  refine sk_S.geti (dd DX6_hear 2 rfl) rfl fX6_15 hb (by decide) rfl ?_
  refine sk_S.putf (dd DX6_hear 3 rfl) rfl pX6_21 se_4 (by decide) rfl rfl rfl ?_
  refine sk_S.aload_n (i := 0) (dd DX6_hear 4 rfl) rfl rfl ?_
  refine sk_S.aload_n (i := 1) (dd DX6_hear 5 rfl) rfl rfl ?_
  refine sk_S.geti (dd DX6_hear 6 rfl) rfl fX6_22 hb (by decide) rfl ?_
  refine sk_S.putf (dd DX6_hear 7 rfl) rfl pX6_25 se_4 (by decide) rfl rfl rfl ?_
  refine sk_S.aload_n (i := 0) (dd DX6_hear 8 rfl) rfl rfl ?_
  refine sk_S.iload_n (i := 2) (dd DX6_hear 9 rfl) rfl rfl ?_
  refine sk_S.putf (dd DX6_hear 10 rfl) rfl pX6_26 se_4 (by decide) rfl rfl rfl ?_
  refine sk_S.aload_n (i := 0) (dd DX6_hear 11 rfl) rfl rfl ?_
  refine sk_S.iconst (v := 0) (dd DX6_hear 12 rfl) (by decide) ?_
  refine sk_S.putf (dd DX6_hear 13 rfl) rfl pX6_29 se_4 (by decide) rfl rfl rfl ?_
  refine sk_S.aload_n (i := 0) (dd DX6_hear 14 rfl) rfl rfl ?_
  refine sk_S.iconst (v := 0) (dd DX6_hear 15 rfl) (by decide) ?_
  refine sk_S.putf (dd DX6_hear 16 rfl) rfl pX6_32 se_4 (by decide) rfl rfl rfl ?_
  refine sk_S.aload_n (i := 0) (dd DX6_hear 17 rfl) rfl rfl ?_
  refine sk_S.aload_n (i := 0) (dd DX6_hear 18 rfl) rfl rfl ?_
  refine sk_S.geti (dd DX6_hear 19 rfl) rfl fX6_21 se_4 (by decide) rfl ?_
  refine sk_S.V 5 (by simp [sk_u_at, hb4, e0, e1]) ?_
  refine sk_S.iload_n (i := 3) (dd DX6_hear 20 rfl) rfl rfl ?_
  refine sk_S.iload (i := 4) (dd DX6_hear 21 rfl) rfl ?_
  refine sk_S.iconst (v := 0) (dd DX6_hear 22 rfl) (by decide) ?_
  have hV : voI (sk_u (sk_u (sk_u (sk_u (sk_u h 4 3 (h b 0)) 4 5 (sk_u h 4 3 (h b 0) b 1)) 4 4 (nI t)) 4 1 0) 4 2 0) 5 m t 0 := ⟨by simp [sk_u_at, hb4, e0, e1], by simp [sk_u_at, hb4, e0, e1], by simp [sk_u_at, hb4, e0, e1], by simp [sk_u_at, hb4, e0, e1], by rw [sk_u_at, if_pos rfl, if_neg (by decide), sk_u_at, if_pos rfl, if_pos rfl]; rfl⟩
  refine sk_S.callV (dd DX6_hear 23 rfl) rfl kX6_36 (cV_sp_5_5_3 (dep := 0) (by decide) (by decide) hV hp) se_4 (by decide) rfl rfl rfl rfl (Nat.le_of_ble_eq_true rfl) (fun r40 h40 q40 => ?_)
  obtain ⟨x40, rfl⟩ := q40
  show sk_S _ _ _ _ _ _ (.int _ :: _) _ _
  refine sk_S.iret (dd DX6_hear 24 rfl) rfl rfl ?_
  refine ⟨?_, ?_⟩
  · have e : voB 3 5 m (nI t) = [13] := by simp [voB, voCb, voPb, voHb, voLb, voRb, hp]
    rw [e]
    exact tcV.of (((((sk_o.rf.u (by decide)).u (by decide)).u (by decide)).u (by decide)).u (by decide)) x40
  · have e : voV 3 5 m (nI t) x = (x / (m - nI t)) := by simp [voV, voC, voP, voH, voL, voR, hp]
    rw [e]
set_option maxRecDepth 100000 in
set_option maxHeartbeats 1000000 in
theorem cV_he_5_3p {l : Launch} {E : sk_V} {d : Nat} {h : sk_M} {b t : Nat} {m x : Int32} (hb : sk_e b = (1, 0, 3, [])) (hb4 : ¬ b = 4) (e0 : h b 0 = 5) (e1 : h b 1 = m) (hp : m - nI t = 0) : sk_K l E (d + 4) MX6_hear [.ref 4, .ref b, .int (nI t), .int 3, .int x] h (fun r h1 => tcV h h1 (voB 3 5 m (nI t)) 1 ∧ (∃ y : Int32, some (.int y) = r)) := by
  refine sk_K.of (by decide +kernel) (Nat.le_of_ble_eq_true rfl) ?_
  show sk_S l E (d + 4) _ 0 [some (.ref 4), some (.ref b), some (.int (nI t)), some (.int 3), some (.int x)] [] h _
  refine sk_S.aload_n (i := 0) (dd DX6_hear 0 rfl) rfl rfl ?_
  refine sk_S.aload_n (i := 1) (dd DX6_hear 1 rfl) rfl rfl ?_
  refine sk_S.geti (dd DX6_hear 2 rfl) rfl fX6_15 hb (by decide) rfl ?_
  refine sk_S.putf (dd DX6_hear 3 rfl) rfl pX6_21 se_4 (by decide) rfl rfl rfl ?_
  refine sk_S.aload_n (i := 0) (dd DX6_hear 4 rfl) rfl rfl ?_
  refine sk_S.aload_n (i := 1) (dd DX6_hear 5 rfl) rfl rfl ?_
  refine sk_S.geti (dd DX6_hear 6 rfl) rfl fX6_22 hb (by decide) rfl ?_
  refine sk_S.putf (dd DX6_hear 7 rfl) rfl pX6_25 se_4 (by decide) rfl rfl rfl ?_
  refine sk_S.aload_n (i := 0) (dd DX6_hear 8 rfl) rfl rfl ?_
  refine sk_S.iload_n (i := 2) (dd DX6_hear 9 rfl) rfl rfl ?_
  refine sk_S.putf (dd DX6_hear 10 rfl) rfl pX6_26 se_4 (by decide) rfl rfl rfl ?_
  refine sk_S.aload_n (i := 0) (dd DX6_hear 11 rfl) rfl rfl ?_
  refine sk_S.iconst (v := 0) (dd DX6_hear 12 rfl) (by decide) ?_
  refine sk_S.putf (dd DX6_hear 13 rfl) rfl pX6_29 se_4 (by decide) rfl rfl rfl ?_
  refine sk_S.aload_n (i := 0) (dd DX6_hear 14 rfl) rfl rfl ?_
  refine sk_S.iconst (v := 0) (dd DX6_hear 15 rfl) (by decide) ?_
  refine sk_S.putf (dd DX6_hear 16 rfl) rfl pX6_32 se_4 (by decide) rfl rfl rfl ?_
  refine sk_S.aload_n (i := 0) (dd DX6_hear 17 rfl) rfl rfl ?_
  refine sk_S.aload_n (i := 0) (dd DX6_hear 18 rfl) rfl rfl ?_
  refine sk_S.geti (dd DX6_hear 19 rfl) rfl fX6_21 se_4 (by decide) rfl ?_
  refine sk_S.V 5 (by simp [sk_u_at, hb4, e0, e1]) ?_
  refine sk_S.iload_n (i := 3) (dd DX6_hear 20 rfl) rfl rfl ?_
  refine sk_S.iload (i := 4) (dd DX6_hear 21 rfl) rfl ?_
  refine sk_S.iconst (v := 0) (dd DX6_hear 22 rfl) (by decide) ?_
  have hV : voI (sk_u (sk_u (sk_u (sk_u (sk_u h 4 3 (h b 0)) 4 5 (sk_u h 4 3 (h b 0) b 1)) 4 4 (nI t)) 4 1 0) 4 2 0) 5 m t 0 := ⟨by simp [sk_u_at, hb4, e0, e1], by simp [sk_u_at, hb4, e0, e1], by simp [sk_u_at, hb4, e0, e1], by simp [sk_u_at, hb4, e0, e1], by rw [sk_u_at, if_pos rfl, if_neg (by decide), sk_u_at, if_pos rfl, if_pos rfl]; rfl⟩
  refine sk_S.callV (dd DX6_hear 23 rfl) rfl kX6_36 (cV_sp_5_5_3p (dep := 0) (by decide) (by decide) hV hp) se_4 (by decide) rfl rfl rfl rfl (Nat.le_of_ble_eq_true rfl) (fun r40 h40 q40 => ?_)
  obtain ⟨x40, rfl⟩ := q40
  show sk_S _ _ _ _ _ _ (.int _ :: _) _ _
  refine sk_S.iret (dd DX6_hear 24 rfl) rfl rfl ?_
  refine ⟨?_, ?_⟩
  · have e : voB 3 5 m (nI t) = [13] := by simp [voB, voCb, voPb, voHb, voLb, voRb, hp]
    rw [e]
    exact tcV.of (((((sk_o.rf.u (by decide)).u (by decide)).u (by decide)).u (by decide)).u (by decide)) x40
  · exact ⟨_, rfl⟩
set_option maxRecDepth 100000 in
set_option maxHeartbeats 1000000 in
theorem cV_he_6_0 {l : Launch} {E : sk_V} {d : Nat} {h : sk_M} {b t : Nat} {m x : Int32} (hb : sk_e b = (1, 0, 3, [])) (hb4 : ¬ b = 4) (e0 : h b 0 = 6) (e1 : h b 1 = m) : sk_K l E (d + 3) MX6_hear [.ref 4, .ref b, .int (nI t), .int 0, .int x] h (fun r h1 => tcV h h1 (voB 0 6 m (nI t)) 0 ∧ some (.int (voV 0 6 m (nI t) x)) = r) := by
  refine sk_K.of (by decide +kernel) (Nat.le_of_ble_eq_true rfl) ?_
  show sk_S l E (d + 3) _ 0 [some (.ref 4), some (.ref b), some (.int (nI t)), some (.int 0), some (.int x)] [] h _
  refine sk_S.aload_n (i := 0) (dd DX6_hear 0 rfl) rfl rfl ?_
  refine sk_S.aload_n (i := 1) (dd DX6_hear 1 rfl) rfl rfl ?_
  refine sk_S.geti (dd DX6_hear 2 rfl) rfl fX6_15 hb (by decide) rfl ?_
  refine sk_S.putf (dd DX6_hear 3 rfl) rfl pX6_21 se_4 (by decide) rfl rfl rfl ?_
  refine sk_S.aload_n (i := 0) (dd DX6_hear 4 rfl) rfl rfl ?_
  refine sk_S.aload_n (i := 1) (dd DX6_hear 5 rfl) rfl rfl ?_
  refine sk_S.geti (dd DX6_hear 6 rfl) rfl fX6_22 hb (by decide) rfl ?_
  refine sk_S.putf (dd DX6_hear 7 rfl) rfl pX6_25 se_4 (by decide) rfl rfl rfl ?_
  refine sk_S.aload_n (i := 0) (dd DX6_hear 8 rfl) rfl rfl ?_
  refine sk_S.iload_n (i := 2) (dd DX6_hear 9 rfl) rfl rfl ?_
  refine sk_S.putf (dd DX6_hear 10 rfl) rfl pX6_26 se_4 (by decide) rfl rfl rfl ?_
  refine sk_S.aload_n (i := 0) (dd DX6_hear 11 rfl) rfl rfl ?_
  refine sk_S.iconst (v := 0) (dd DX6_hear 12 rfl) (by decide) ?_
  refine sk_S.putf (dd DX6_hear 13 rfl) rfl pX6_29 se_4 (by decide) rfl rfl rfl ?_
  refine sk_S.aload_n (i := 0) (dd DX6_hear 14 rfl) rfl rfl ?_
  refine sk_S.iconst (v := 0) (dd DX6_hear 15 rfl) (by decide) ?_
  refine sk_S.putf (dd DX6_hear 16 rfl) rfl pX6_32 se_4 (by decide) rfl rfl rfl ?_
  refine sk_S.aload_n (i := 0) (dd DX6_hear 17 rfl) rfl rfl ?_
  refine sk_S.aload_n (i := 0) (dd DX6_hear 18 rfl) rfl rfl ?_
  refine sk_S.geti (dd DX6_hear 19 rfl) rfl fX6_21 se_4 (by decide) rfl ?_
  refine sk_S.V 6 (by simp [sk_u_at, hb4, e0, e1]) ?_
  refine sk_S.iload_n (i := 3) (dd DX6_hear 20 rfl) rfl rfl ?_
  refine sk_S.iload (i := 4) (dd DX6_hear 21 rfl) rfl ?_
  refine sk_S.iconst (v := 0) (dd DX6_hear 22 rfl) (by decide) ?_
  have hV : voI (sk_u (sk_u (sk_u (sk_u (sk_u h 4 3 (h b 0)) 4 5 (sk_u h 4 3 (h b 0) b 1)) 4 4 (nI t)) 4 1 0) 4 2 0) 6 m t 0 := ⟨by simp [sk_u_at, hb4, e0, e1], by simp [sk_u_at, hb4, e0, e1], by simp [sk_u_at, hb4, e0, e1], by simp [sk_u_at, hb4, e0, e1], by rw [sk_u_at, if_pos rfl, if_neg (by decide), sk_u_at, if_pos rfl, if_pos rfl]; rfl⟩
  refine sk_S.callV (dd DX6_hear 23 rfl) rfl kX6_36 (cV_sp_6_6_0 (dep := 0) (by decide) (by decide) hV) se_4 (by decide) rfl rfl rfl rfl (Nat.le_of_ble_eq_true rfl) (fun r40 h40 q40 => ?_)
  obtain ⟨x40, rfl⟩ := q40
  show sk_S _ _ _ _ _ _ (.int _ :: _) _ _
  refine sk_S.iret (dd DX6_hear 24 rfl) rfl rfl ?_
  refine ⟨?_, ?_⟩
  · have e : voB 0 6 m (nI t) = [70] := by simp [voB, voCb, voPb, voHb, voLb, voRb]
    rw [e]
    exact tcV.of (((((sk_o.rf.u (by decide)).u (by decide)).u (by decide)).u (by decide)).u (by decide)) x40
  · have e : voV 0 6 m (nI t) x = (9 : Int32) := by simp [voV, voC, voP, voH, voL, voR]
    rw [e]
set_option maxRecDepth 100000 in
set_option maxHeartbeats 1000000 in
theorem cV_he_6_1 {l : Launch} {E : sk_V} {d : Nat} {h : sk_M} {b t : Nat} {m x : Int32} (hb : sk_e b = (1, 0, 3, [])) (hb4 : ¬ b = 4) (e0 : h b 0 = 6) (e1 : h b 1 = m) : sk_K l E (d + 9) MX6_hear [.ref 4, .ref b, .int (nI t), .int 1, .int x] h (fun r h1 => tcV h h1 (voB 1 6 m (nI t)) 0 ∧ some (.int (voV 1 6 m (nI t) x)) = r) := by
  refine sk_K.of (by decide +kernel) (Nat.le_of_ble_eq_true rfl) ?_
  show sk_S l E (d + 9) _ 0 [some (.ref 4), some (.ref b), some (.int (nI t)), some (.int 1), some (.int x)] [] h _
  refine sk_S.aload_n (i := 0) (dd DX6_hear 0 rfl) rfl rfl ?_
  refine sk_S.aload_n (i := 1) (dd DX6_hear 1 rfl) rfl rfl ?_
  refine sk_S.geti (dd DX6_hear 2 rfl) rfl fX6_15 hb (by decide) rfl ?_
  refine sk_S.putf (dd DX6_hear 3 rfl) rfl pX6_21 se_4 (by decide) rfl rfl rfl ?_
  refine sk_S.aload_n (i := 0) (dd DX6_hear 4 rfl) rfl rfl ?_
  refine sk_S.aload_n (i := 1) (dd DX6_hear 5 rfl) rfl rfl ?_
  refine sk_S.geti (dd DX6_hear 6 rfl) rfl fX6_22 hb (by decide) rfl ?_
  refine sk_S.putf (dd DX6_hear 7 rfl) rfl pX6_25 se_4 (by decide) rfl rfl rfl ?_
  refine sk_S.aload_n (i := 0) (dd DX6_hear 8 rfl) rfl rfl ?_
  refine sk_S.iload_n (i := 2) (dd DX6_hear 9 rfl) rfl rfl ?_
  refine sk_S.putf (dd DX6_hear 10 rfl) rfl pX6_26 se_4 (by decide) rfl rfl rfl ?_
  refine sk_S.aload_n (i := 0) (dd DX6_hear 11 rfl) rfl rfl ?_
  refine sk_S.iconst (v := 0) (dd DX6_hear 12 rfl) (by decide) ?_
  refine sk_S.putf (dd DX6_hear 13 rfl) rfl pX6_29 se_4 (by decide) rfl rfl rfl ?_
  refine sk_S.aload_n (i := 0) (dd DX6_hear 14 rfl) rfl rfl ?_
  refine sk_S.iconst (v := 0) (dd DX6_hear 15 rfl) (by decide) ?_
  refine sk_S.putf (dd DX6_hear 16 rfl) rfl pX6_32 se_4 (by decide) rfl rfl rfl ?_
  refine sk_S.aload_n (i := 0) (dd DX6_hear 17 rfl) rfl rfl ?_
  refine sk_S.aload_n (i := 0) (dd DX6_hear 18 rfl) rfl rfl ?_
  refine sk_S.geti (dd DX6_hear 19 rfl) rfl fX6_21 se_4 (by decide) rfl ?_
  refine sk_S.V 6 (by simp [sk_u_at, hb4, e0, e1]) ?_
  refine sk_S.iload_n (i := 3) (dd DX6_hear 20 rfl) rfl rfl ?_
  refine sk_S.iload (i := 4) (dd DX6_hear 21 rfl) rfl ?_
  refine sk_S.iconst (v := 0) (dd DX6_hear 22 rfl) (by decide) ?_
  have hV : voI (sk_u (sk_u (sk_u (sk_u (sk_u h 4 3 (h b 0)) 4 5 (sk_u h 4 3 (h b 0) b 1)) 4 4 (nI t)) 4 1 0) 4 2 0) 6 m t 0 := ⟨by simp [sk_u_at, hb4, e0, e1], by simp [sk_u_at, hb4, e0, e1], by simp [sk_u_at, hb4, e0, e1], by simp [sk_u_at, hb4, e0, e1], by rw [sk_u_at, if_pos rfl, if_neg (by decide), sk_u_at, if_pos rfl, if_pos rfl]; rfl⟩
  refine sk_S.callV (dd DX6_hear 23 rfl) rfl kX6_36 (cV_sp_6_6_1 (dep := 0) (by decide) (by decide) hV) se_4 (by decide) rfl rfl rfl rfl (Nat.le_of_ble_eq_true rfl) (fun r40 h40 q40 => ?_)
  obtain ⟨x40, rfl⟩ := q40
  show sk_S _ _ _ _ _ _ (.int _ :: _) _ _
  refine sk_S.iret (dd DX6_hear 24 rfl) rfl rfl ?_
  refine ⟨?_, ?_⟩
  · have e : voB 1 6 m (nI t) = [71, 11, 70] := by simp [voB, voCb, voPb, voHb, voLb, voRb]
    rw [e]
    exact tcV.of (((((sk_o.rf.u (by decide)).u (by decide)).u (by decide)).u (by decide)).u (by decide)) x40
  · have e : voV 1 6 m (nI t) x = (((9 : Int32) * 2) + m) := by simp [voV, voC, voP, voH, voL, voR]
    rw [e]
set_option maxRecDepth 100000 in
set_option maxHeartbeats 1000000 in
theorem cV_he_6_2 {l : Launch} {E : sk_V} {d : Nat} {h : sk_M} {b t : Nat} {m x : Int32} (hb : sk_e b = (1, 0, 3, [])) (hb4 : ¬ b = 4) (e0 : h b 0 = 6) (e1 : h b 1 = m) : sk_K l E (d + 12) MX6_hear [.ref 4, .ref b, .int (nI t), .int 2, .int x] h (fun r h1 => tcV h h1 (voB 2 6 m (nI t)) 0 ∧ some (.int (voV 2 6 m (nI t) x)) = r) := by
  refine sk_K.of (by decide +kernel) (Nat.le_of_ble_eq_true rfl) ?_
  show sk_S l E (d + 12) _ 0 [some (.ref 4), some (.ref b), some (.int (nI t)), some (.int 2), some (.int x)] [] h _
  refine sk_S.aload_n (i := 0) (dd DX6_hear 0 rfl) rfl rfl ?_
  refine sk_S.aload_n (i := 1) (dd DX6_hear 1 rfl) rfl rfl ?_
  refine sk_S.geti (dd DX6_hear 2 rfl) rfl fX6_15 hb (by decide) rfl ?_
  refine sk_S.putf (dd DX6_hear 3 rfl) rfl pX6_21 se_4 (by decide) rfl rfl rfl ?_
  refine sk_S.aload_n (i := 0) (dd DX6_hear 4 rfl) rfl rfl ?_
  refine sk_S.aload_n (i := 1) (dd DX6_hear 5 rfl) rfl rfl ?_
  refine sk_S.geti (dd DX6_hear 6 rfl) rfl fX6_22 hb (by decide) rfl ?_
  refine sk_S.putf (dd DX6_hear 7 rfl) rfl pX6_25 se_4 (by decide) rfl rfl rfl ?_
  refine sk_S.aload_n (i := 0) (dd DX6_hear 8 rfl) rfl rfl ?_
  refine sk_S.iload_n (i := 2) (dd DX6_hear 9 rfl) rfl rfl ?_
  refine sk_S.putf (dd DX6_hear 10 rfl) rfl pX6_26 se_4 (by decide) rfl rfl rfl ?_
  refine sk_S.aload_n (i := 0) (dd DX6_hear 11 rfl) rfl rfl ?_
  refine sk_S.iconst (v := 0) (dd DX6_hear 12 rfl) (by decide) ?_
  refine sk_S.putf (dd DX6_hear 13 rfl) rfl pX6_29 se_4 (by decide) rfl rfl rfl ?_
  refine sk_S.aload_n (i := 0) (dd DX6_hear 14 rfl) rfl rfl ?_
  refine sk_S.iconst (v := 0) (dd DX6_hear 15 rfl) (by decide) ?_
  refine sk_S.putf (dd DX6_hear 16 rfl) rfl pX6_32 se_4 (by decide) rfl rfl rfl ?_
  refine sk_S.aload_n (i := 0) (dd DX6_hear 17 rfl) rfl rfl ?_
  refine sk_S.aload_n (i := 0) (dd DX6_hear 18 rfl) rfl rfl ?_
  refine sk_S.geti (dd DX6_hear 19 rfl) rfl fX6_21 se_4 (by decide) rfl ?_
  refine sk_S.V 6 (by simp [sk_u_at, hb4, e0, e1]) ?_
  refine sk_S.iload_n (i := 3) (dd DX6_hear 20 rfl) rfl rfl ?_
  refine sk_S.iload (i := 4) (dd DX6_hear 21 rfl) rfl ?_
  refine sk_S.iconst (v := 0) (dd DX6_hear 22 rfl) (by decide) ?_
  have hV : voI (sk_u (sk_u (sk_u (sk_u (sk_u h 4 3 (h b 0)) 4 5 (sk_u h 4 3 (h b 0) b 1)) 4 4 (nI t)) 4 1 0) 4 2 0) 6 m t 0 := ⟨by simp [sk_u_at, hb4, e0, e1], by simp [sk_u_at, hb4, e0, e1], by simp [sk_u_at, hb4, e0, e1], by simp [sk_u_at, hb4, e0, e1], by rw [sk_u_at, if_pos rfl, if_neg (by decide), sk_u_at, if_pos rfl, if_pos rfl]; rfl⟩
  refine sk_S.callV (dd DX6_hear 23 rfl) rfl kX6_36 (cV_sp_6_6_2 (dep := 0) (by decide) (by decide) hV) se_4 (by decide) rfl rfl rfl rfl (Nat.le_of_ble_eq_true rfl) (fun r40 h40 q40 => ?_)
  obtain ⟨x40, rfl⟩ := q40
  show sk_S _ _ _ _ _ _ (.int _ :: _) _ _
  refine sk_S.iret (dd DX6_hear 24 rfl) rfl rfl ?_
  refine ⟨?_, ?_⟩
  · have e : voB 2 6 m (nI t) = [12, 71, 11, 70] := by simp [voB, voCb, voPb, voHb, voLb, voRb]
    rw [e]
    exact tcV.of (((((sk_o.rf.u (by decide)).u (by decide)).u (by decide)).u (by decide)).u (by decide)) x40
  · have e : voV 2 6 m (nI t) x = ((((9 : Int32) * 2) + m) - m) := by simp [voV, voC, voP, voH, voL, voR]
    rw [e]
set_option maxRecDepth 100000 in
set_option maxHeartbeats 1000000 in
theorem cV_he_6_3 {l : Launch} {E : sk_V} {d : Nat} {h : sk_M} {b t : Nat} {m x : Int32} (hb : sk_e b = (1, 0, 3, [])) (hb4 : ¬ b = 4) (e0 : h b 0 = 6) (e1 : h b 1 = m) (hp : ¬ m - nI t = 0) : sk_K l E (d + 4) MX6_hear [.ref 4, .ref b, .int (nI t), .int 3, .int x] h (fun r h1 => tcV h h1 (voB 3 6 m (nI t)) 0 ∧ some (.int (voV 3 6 m (nI t) x)) = r) := by
  refine sk_K.of (by decide +kernel) (Nat.le_of_ble_eq_true rfl) ?_
  show sk_S l E (d + 4) _ 0 [some (.ref 4), some (.ref b), some (.int (nI t)), some (.int 3), some (.int x)] [] h _
  refine sk_S.aload_n (i := 0) (dd DX6_hear 0 rfl) rfl rfl ?_
  refine sk_S.aload_n (i := 1) (dd DX6_hear 1 rfl) rfl rfl ?_
  refine sk_S.geti (dd DX6_hear 2 rfl) rfl fX6_15 hb (by decide) rfl ?_
  refine sk_S.putf (dd DX6_hear 3 rfl) rfl pX6_21 se_4 (by decide) rfl rfl rfl ?_
  refine sk_S.aload_n (i := 0) (dd DX6_hear 4 rfl) rfl rfl ?_
  refine sk_S.aload_n (i := 1) (dd DX6_hear 5 rfl) rfl rfl ?_
  refine sk_S.geti (dd DX6_hear 6 rfl) rfl fX6_22 hb (by decide) rfl ?_
  refine sk_S.putf (dd DX6_hear 7 rfl) rfl pX6_25 se_4 (by decide) rfl rfl rfl ?_
  refine sk_S.aload_n (i := 0) (dd DX6_hear 8 rfl) rfl rfl ?_
  refine sk_S.iload_n (i := 2) (dd DX6_hear 9 rfl) rfl rfl ?_
  refine sk_S.putf (dd DX6_hear 10 rfl) rfl pX6_26 se_4 (by decide) rfl rfl rfl ?_
  refine sk_S.aload_n (i := 0) (dd DX6_hear 11 rfl) rfl rfl ?_
  refine sk_S.iconst (v := 0) (dd DX6_hear 12 rfl) (by decide) ?_
  refine sk_S.putf (dd DX6_hear 13 rfl) rfl pX6_29 se_4 (by decide) rfl rfl rfl ?_
  refine sk_S.aload_n (i := 0) (dd DX6_hear 14 rfl) rfl rfl ?_
  refine sk_S.iconst (v := 0) (dd DX6_hear 15 rfl) (by decide) ?_
  refine sk_S.putf (dd DX6_hear 16 rfl) rfl pX6_32 se_4 (by decide) rfl rfl rfl ?_
  refine sk_S.aload_n (i := 0) (dd DX6_hear 17 rfl) rfl rfl ?_
  refine sk_S.aload_n (i := 0) (dd DX6_hear 18 rfl) rfl rfl ?_
  refine sk_S.geti (dd DX6_hear 19 rfl) rfl fX6_21 se_4 (by decide) rfl ?_
  refine sk_S.V 6 (by simp [sk_u_at, hb4, e0, e1]) ?_
  refine sk_S.iload_n (i := 3) (dd DX6_hear 20 rfl) rfl rfl ?_
  refine sk_S.iload (i := 4) (dd DX6_hear 21 rfl) rfl ?_
  refine sk_S.iconst (v := 0) (dd DX6_hear 22 rfl) (by decide) ?_
  have hV : voI (sk_u (sk_u (sk_u (sk_u (sk_u h 4 3 (h b 0)) 4 5 (sk_u h 4 3 (h b 0) b 1)) 4 4 (nI t)) 4 1 0) 4 2 0) 6 m t 0 := ⟨by simp [sk_u_at, hb4, e0, e1], by simp [sk_u_at, hb4, e0, e1], by simp [sk_u_at, hb4, e0, e1], by simp [sk_u_at, hb4, e0, e1], by rw [sk_u_at, if_pos rfl, if_neg (by decide), sk_u_at, if_pos rfl, if_pos rfl]; rfl⟩
  refine sk_S.callV (dd DX6_hear 23 rfl) rfl kX6_36 (cV_sp_6_6_3 (dep := 0) (by decide) (by decide) hV hp) se_4 (by decide) rfl rfl rfl rfl (Nat.le_of_ble_eq_true rfl) (fun r40 h40 q40 => ?_)
  obtain ⟨x40, rfl⟩ := q40
  show sk_S _ _ _ _ _ _ (.int _ :: _) _ _
  refine sk_S.iret (dd DX6_hear 24 rfl) rfl rfl ?_
  refine ⟨?_, ?_⟩
  · have e : voB 3 6 m (nI t) = [13] := by simp [voB, voCb, voPb, voHb, voLb, voRb, hp]
    rw [e]
    exact tcV.of (((((sk_o.rf.u (by decide)).u (by decide)).u (by decide)).u (by decide)).u (by decide)) x40
  · have e : voV 3 6 m (nI t) x = (x / (m - nI t)) := by simp [voV, voC, voP, voH, voL, voR, hp]
    rw [e]
set_option maxRecDepth 100000 in
set_option maxHeartbeats 1000000 in
theorem cV_he_6_3p {l : Launch} {E : sk_V} {d : Nat} {h : sk_M} {b t : Nat} {m x : Int32} (hb : sk_e b = (1, 0, 3, [])) (hb4 : ¬ b = 4) (e0 : h b 0 = 6) (e1 : h b 1 = m) (hp : m - nI t = 0) : sk_K l E (d + 4) MX6_hear [.ref 4, .ref b, .int (nI t), .int 3, .int x] h (fun r h1 => tcV h h1 (voB 3 6 m (nI t)) 1 ∧ (∃ y : Int32, some (.int y) = r)) := by
  refine sk_K.of (by decide +kernel) (Nat.le_of_ble_eq_true rfl) ?_
  show sk_S l E (d + 4) _ 0 [some (.ref 4), some (.ref b), some (.int (nI t)), some (.int 3), some (.int x)] [] h _
  refine sk_S.aload_n (i := 0) (dd DX6_hear 0 rfl) rfl rfl ?_
  refine sk_S.aload_n (i := 1) (dd DX6_hear 1 rfl) rfl rfl ?_
  refine sk_S.geti (dd DX6_hear 2 rfl) rfl fX6_15 hb (by decide) rfl ?_
  refine sk_S.putf (dd DX6_hear 3 rfl) rfl pX6_21 se_4 (by decide) rfl rfl rfl ?_
  refine sk_S.aload_n (i := 0) (dd DX6_hear 4 rfl) rfl rfl ?_
  refine sk_S.aload_n (i := 1) (dd DX6_hear 5 rfl) rfl rfl ?_
  refine sk_S.geti (dd DX6_hear 6 rfl) rfl fX6_22 hb (by decide) rfl ?_
  refine sk_S.putf (dd DX6_hear 7 rfl) rfl pX6_25 se_4 (by decide) rfl rfl rfl ?_
  refine sk_S.aload_n (i := 0) (dd DX6_hear 8 rfl) rfl rfl ?_
  refine sk_S.iload_n (i := 2) (dd DX6_hear 9 rfl) rfl rfl ?_
  refine sk_S.putf (dd DX6_hear 10 rfl) rfl pX6_26 se_4 (by decide) rfl rfl rfl ?_
  refine sk_S.aload_n (i := 0) (dd DX6_hear 11 rfl) rfl rfl ?_
  refine sk_S.iconst (v := 0) (dd DX6_hear 12 rfl) (by decide) ?_
  refine sk_S.putf (dd DX6_hear 13 rfl) rfl pX6_29 se_4 (by decide) rfl rfl rfl ?_
  refine sk_S.aload_n (i := 0) (dd DX6_hear 14 rfl) rfl rfl ?_
  refine sk_S.iconst (v := 0) (dd DX6_hear 15 rfl) (by decide) ?_
  refine sk_S.putf (dd DX6_hear 16 rfl) rfl pX6_32 se_4 (by decide) rfl rfl rfl ?_
  refine sk_S.aload_n (i := 0) (dd DX6_hear 17 rfl) rfl rfl ?_
  refine sk_S.aload_n (i := 0) (dd DX6_hear 18 rfl) rfl rfl ?_
  refine sk_S.geti (dd DX6_hear 19 rfl) rfl fX6_21 se_4 (by decide) rfl ?_
  refine sk_S.V 6 (by simp [sk_u_at, hb4, e0, e1]) ?_
  refine sk_S.iload_n (i := 3) (dd DX6_hear 20 rfl) rfl rfl ?_
  refine sk_S.iload (i := 4) (dd DX6_hear 21 rfl) rfl ?_
  refine sk_S.iconst (v := 0) (dd DX6_hear 22 rfl) (by decide) ?_
  have hV : voI (sk_u (sk_u (sk_u (sk_u (sk_u h 4 3 (h b 0)) 4 5 (sk_u h 4 3 (h b 0) b 1)) 4 4 (nI t)) 4 1 0) 4 2 0) 6 m t 0 := ⟨by simp [sk_u_at, hb4, e0, e1], by simp [sk_u_at, hb4, e0, e1], by simp [sk_u_at, hb4, e0, e1], by simp [sk_u_at, hb4, e0, e1], by rw [sk_u_at, if_pos rfl, if_neg (by decide), sk_u_at, if_pos rfl, if_pos rfl]; rfl⟩
  refine sk_S.callV (dd DX6_hear 23 rfl) rfl kX6_36 (cV_sp_6_6_3p (dep := 0) (by decide) (by decide) hV hp) se_4 (by decide) rfl rfl rfl rfl (Nat.le_of_ble_eq_true rfl) (fun r40 h40 q40 => ?_)
  obtain ⟨x40, rfl⟩ := q40
  show sk_S _ _ _ _ _ _ (.int _ :: _) _ _
  refine sk_S.iret (dd DX6_hear 24 rfl) rfl rfl ?_
  refine ⟨?_, ?_⟩
  · have e : voB 3 6 m (nI t) = [13] := by simp [voB, voCb, voPb, voHb, voLb, voRb, hp]
    rw [e]
    exact tcV.of (((((sk_o.rf.u (by decide)).u (by decide)).u (by decide)).u (by decide)).u (by decide)) x40
  · exact ⟨_, rfl⟩
set_option maxRecDepth 100000 in
set_option maxHeartbeats 1000000 in
theorem cV_hear {l : Launch} {E : sk_V} {d : Nat} {h : sk_M} {b t i : Nat} {k m x : Int32} (hb : sk_e b = (1, 0, 3, [])) (hb4 : ¬ b = 4) (hi : i < 4) (hk : inN k 7) (e0 : h b 0 = k) (e1 : h b 1 = m) (hp : ¬ (i = 3 ∧ m - nI t = 0)) : sk_K l E (d + 18) MX6_hear [.ref 4, .ref b, .int (nI t), .int (nI i), .int x] h (fun r h1 => tcV h h1 (voB i k m (nI t)) 0 ∧ some (.int (voV i k m (nI t) x)) = r) := by
  obtain ⟨j, hj, rfl⟩ := hk
  rcases (by omega : j = 0 ∨ j = 1 ∨ j = 2 ∨ j = 3 ∨ j = 4 ∨ j = 5 ∨ j = 6) with rfl | rfl | rfl | rfl | rfl | rfl | rfl
  · rcases (by omega : i = 0 ∨ i = 1 ∨ i = 2 ∨ i = 3) with rfl | rfl | rfl | rfl
    · exact cV_he_0_0 (d := d + 15) hb hb4 e0 e1
    · exact cV_he_0_1 (d := d + 12) hb hb4 e0 e1
    · exact cV_he_0_2 (d := d + 9) hb hb4 e0 e1
    · exact cV_he_0_3 (d := d + 14) hb hb4 e0 e1 (fun z => hp ⟨rfl, z⟩)
  · rcases (by omega : i = 0 ∨ i = 1 ∨ i = 2 ∨ i = 3) with rfl | rfl | rfl | rfl
    · exact cV_he_1_0 (d := d + 12) hb hb4 e0 e1
    · exact cV_he_1_1 (d := d + 9) hb hb4 e0 e1
    · exact cV_he_1_2 (d := d + 6) hb hb4 e0 e1
    · exact cV_he_1_3 (d := d + 6) hb hb4 e0 e1 (fun z => hp ⟨rfl, z⟩)
  · rcases (by omega : i = 0 ∨ i = 1 ∨ i = 2 ∨ i = 3) with rfl | rfl | rfl | rfl
    · exact cV_he_2_0 (d := d + 15) hb hb4 e0 e1
    · exact cV_he_2_1 (d := d + 9) hb hb4 e0 e1
    · exact cV_he_2_2 (d := d + 6) hb hb4 e0 e1
    · exact cV_he_2_3 (d := d + 14) hb hb4 e0 e1 (fun z => hp ⟨rfl, z⟩)
  · rcases (by omega : i = 0 ∨ i = 1 ∨ i = 2 ∨ i = 3) with rfl | rfl | rfl | rfl
    · exact cV_he_3_0 (d := d + 15) hb hb4 e0 e1
    · exact cV_he_3_1 (d := d + 12) hb hb4 e0 e1
    · exact cV_he_3_2 (d := d + 6) hb hb4 e0 e1
    · exact cV_he_3_3 (d := d + 14) hb hb4 e0 e1 (fun z => hp ⟨rfl, z⟩)
  · rcases (by omega : i = 0 ∨ i = 1 ∨ i = 2 ∨ i = 3) with rfl | rfl | rfl | rfl
    · exact cV_he_4_0 (d := d + 9) hb hb4 e0 e1
    · exact cV_he_4_1 (d := d + 6) hb hb4 e0 e1
    · exact cV_he_4_2 (d := d + 0) hb hb4 e0 e1
    · exact cV_he_4_3 (d := d + 3) hb hb4 e0 e1 (fun z => hp ⟨rfl, z⟩)
  · rcases (by omega : i = 0 ∨ i = 1 ∨ i = 2 ∨ i = 3) with rfl | rfl | rfl | rfl
    · exact cV_he_5_0 (d := d + 15) hb hb4 e0 e1
    · exact cV_he_5_1 (d := d + 6) hb hb4 e0 e1
    · exact cV_he_5_2 (d := d + 3) hb hb4 e0 e1
    · exact cV_he_5_3 (d := d + 14) hb hb4 e0 e1 (fun z => hp ⟨rfl, z⟩)
  · rcases (by omega : i = 0 ∨ i = 1 ∨ i = 2 ∨ i = 3) with rfl | rfl | rfl | rfl
    · exact cV_he_6_0 (d := d + 15) hb hb4 e0 e1
    · exact cV_he_6_1 (d := d + 9) hb hb4 e0 e1
    · exact cV_he_6_2 (d := d + 6) hb hb4 e0 e1
    · exact cV_he_6_3 (d := d + 14) hb hb4 e0 e1 (fun z => hp ⟨rfl, z⟩)
set_option maxRecDepth 100000 in
set_option maxHeartbeats 1000000 in
theorem cV_hearP {l : Launch} {E : sk_V} {d : Nat} {h : sk_M} {b t i : Nat} {k m x : Int32} (hb : sk_e b = (1, 0, 3, [])) (hb4 : ¬ b = 4) (hi : i < 4) (hk : inN k 7) (e0 : h b 0 = k) (e1 : h b 1 = m) (hp : i = 3 ∧ m - nI t = 0) : sk_K l E (d + 18) MX6_hear [.ref 4, .ref b, .int (nI t), .int (nI i), .int x] h (fun r h1 => tcV h h1 (voB i k m (nI t)) 1 ∧ (∃ y : Int32, some (.int y) = r)) := by
  obtain ⟨j, hj, rfl⟩ := hk
  rcases (by omega : j = 0 ∨ j = 1 ∨ j = 2 ∨ j = 3 ∨ j = 4 ∨ j = 5 ∨ j = 6) with rfl | rfl | rfl | rfl | rfl | rfl | rfl
  · rcases (by omega : i = 0 ∨ i = 1 ∨ i = 2 ∨ i = 3) with rfl | rfl | rfl | rfl
    · exact absurd hp.1 (by decide)
    · exact absurd hp.1 (by decide)
    · exact absurd hp.1 (by decide)
    · exact cV_he_0_3p (d := d + 14) hb hb4 e0 e1 (hp.2)
  · rcases (by omega : i = 0 ∨ i = 1 ∨ i = 2 ∨ i = 3) with rfl | rfl | rfl | rfl
    · exact absurd hp.1 (by decide)
    · exact absurd hp.1 (by decide)
    · exact absurd hp.1 (by decide)
    · exact cV_he_1_3p (d := d + 11) hb hb4 e0 e1 (hp.2)
  · rcases (by omega : i = 0 ∨ i = 1 ∨ i = 2 ∨ i = 3) with rfl | rfl | rfl | rfl
    · exact absurd hp.1 (by decide)
    · exact absurd hp.1 (by decide)
    · exact absurd hp.1 (by decide)
    · exact cV_he_2_3p (d := d + 14) hb hb4 e0 e1 (hp.2)
  · rcases (by omega : i = 0 ∨ i = 1 ∨ i = 2 ∨ i = 3) with rfl | rfl | rfl | rfl
    · exact absurd hp.1 (by decide)
    · exact absurd hp.1 (by decide)
    · exact absurd hp.1 (by decide)
    · exact cV_he_3_3p (d := d + 14) hb hb4 e0 e1 (hp.2)
  · rcases (by omega : i = 0 ∨ i = 1 ∨ i = 2 ∨ i = 3) with rfl | rfl | rfl | rfl
    · exact absurd hp.1 (by decide)
    · exact absurd hp.1 (by decide)
    · exact absurd hp.1 (by decide)
    · exact cV_he_4_3p (d := d + 11) hb hb4 e0 e1 (hp.2)
  · rcases (by omega : i = 0 ∨ i = 1 ∨ i = 2 ∨ i = 3) with rfl | rfl | rfl | rfl
    · exact absurd hp.1 (by decide)
    · exact absurd hp.1 (by decide)
    · exact absurd hp.1 (by decide)
    · exact cV_he_5_3p (d := d + 14) hb hb4 e0 e1 (hp.2)
  · rcases (by omega : i = 0 ∨ i = 1 ∨ i = 2 ∨ i = 3) with rfl | rfl | rfl | rfl
    · exact absurd hp.1 (by decide)
    · exact absurd hp.1 (by decide)
    · exact absurd hp.1 (by decide)
    · exact cV_he_6_3p (d := d + 14) hb hb4 e0 e1 (hp.2)
end C7
