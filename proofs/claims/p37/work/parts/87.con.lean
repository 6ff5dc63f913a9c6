section CON
theorem cn_sa {tl : va_W} {y : Nat} {z0 z : Nat × va_E} (h : tl[y]? = some z0) : (tl.set y z)[y]? = some z := by
  rw [List.getElem?_set, if_pos rfl, if_pos (List.getElem?_eq_some_iff.mp h).1]
set_option maxRecDepth 100000 in
set_option maxHeartbeats 4000000 in
theorem cn_fill {l : Launch} {G : va_G} {T : Nat → ClassId} {S0 d : Nat} {X : va_W × Nat × Nat × Nat} {fs : List Value} {tl : va_W} {y a : Nat} {f : Nat → Int32} {v : Int32} (h : tl[y]? = some (a, .inl (T 0, 4, .inl f))) : cn_M l G T S0 d 0 0 MJ7_fill_53178 [.ref a, .int v] (cw X fs tl) (fun w => w = cw X fs (tl.set y (a, .inl (T 0, 4, .inl (upd (upd (upd (upd f 0 v) 1 v) 2 v) 3 v))))) := by
  refine cn_M.of (by decide +kernel) rfl (by intro v hv; simp at hv; rcases hv with rfl | rfl <;> rfl) (Nat.le_of_ble_eq_true rfl) ?_
  show cn_S l G T S0 d 0 0 _ 0 [some (.ref a), some (.int v), none, none] [] (cw X fs tl) _
  refine cn_S.iconst (v := 0) (dd DJ7_fill_53178 0 rfl) (by decide) ?_
  refine cn_S.istore_n (i := 2) (dd DJ7_fill_53178 1 rfl) rfl (Nat.le_of_ble_eq_true rfl) rfl ?_
  refine cn_S.aload_n (i := 0) (dd DJ7_fill_53178 2 rfl) rfl rfl ?_
  refine cn_S.alen (x := y) (v := 4) (dd DJ7_fill_53178 3 rfl) h (by decide) ?_
  refine cn_S.istore_n (i := 3) (dd DJ7_fill_53178 4 rfl) rfl (Nat.le_of_ble_eq_true rfl) rfl ?_
  refine cn_S.iload_n (i := 2) (dd DJ7_fill_53178 5 rfl) rfl rfl ?_
  refine cn_S.iload_n (i := 3) (dd DJ7_fill_53178 6 rfl) rfl rfl ?_
  refine cn_S.ge_f (tgt := 20) (dd DJ7_fill_53178 7 rfl) (by decide) (by decide) ?_
  refine cn_S.aload_n (i := 0) (dd DJ7_fill_53178 8 rfl) rfl rfl ?_
  refine cn_S.iload_n (i := 2) (dd DJ7_fill_53178 9 rfl) rfl rfl ?_
  refine cn_S.iload_n (i := 1) (dd DJ7_fill_53178 10 rfl) rfl rfl ?_
  refine cn_S.iast (x := y) (dd DJ7_fill_53178 11 rfl) h (show sk_ix 0 0 4 from ⟨by decide, by decide, by decide⟩).vp ?_
  refine cn_S.iinc (i := 2) (v := 1) (dd DJ7_fill_53178 12 rfl) rfl (by decide) rfl ?_
  refine cn_S.goto (tgt := 5) (dd DJ7_fill_53178 13 rfl) (by decide) ?_
  show cn_S l G T S0 d 0 0 _ 5 [some (.ref a), some (.int v), some (.int 1), some (.int 4)] [] (cw X fs (tl.set y (a, .inl (T 0, 4, .inl (upd f 0 v))))) _
  refine cn_S.iload_n (i := 2) (dd DJ7_fill_53178 5 rfl) rfl rfl ?_
  refine cn_S.iload_n (i := 3) (dd DJ7_fill_53178 6 rfl) rfl rfl ?_
  refine cn_S.ge_f (tgt := 20) (dd DJ7_fill_53178 7 rfl) (by decide) (by decide) ?_
  refine cn_S.aload_n (i := 0) (dd DJ7_fill_53178 8 rfl) rfl rfl ?_
  refine cn_S.iload_n (i := 2) (dd DJ7_fill_53178 9 rfl) rfl rfl ?_
  refine cn_S.iload_n (i := 1) (dd DJ7_fill_53178 10 rfl) rfl rfl ?_
  refine cn_S.iast (x := y) (dd DJ7_fill_53178 11 rfl) (cn_sa h) (show sk_ix 1 1 4 from ⟨by decide, by decide, by decide⟩).vp ?_
  rw [List.set_set]
  refine cn_S.iinc (i := 2) (v := 2) (dd DJ7_fill_53178 12 rfl) rfl (by decide) rfl ?_
  refine cn_S.goto (tgt := 5) (dd DJ7_fill_53178 13 rfl) (by decide) ?_
  show cn_S l G T S0 d 0 0 _ 5 [some (.ref a), some (.int v), some (.int 2), some (.int 4)] [] (cw X fs (tl.set y (a, .inl (T 0, 4, .inl (upd (upd f 0 v) 1 v))))) _
  refine cn_S.iload_n (i := 2) (dd DJ7_fill_53178 5 rfl) rfl rfl ?_
  refine cn_S.iload_n (i := 3) (dd DJ7_fill_53178 6 rfl) rfl rfl ?_
  refine cn_S.ge_f (tgt := 20) (dd DJ7_fill_53178 7 rfl) (by decide) (by decide) ?_
  refine cn_S.aload_n (i := 0) (dd DJ7_fill_53178 8 rfl) rfl rfl ?_
  refine cn_S.iload_n (i := 2) (dd DJ7_fill_53178 9 rfl) rfl rfl ?_
  refine cn_S.iload_n (i := 1) (dd DJ7_fill_53178 10 rfl) rfl rfl ?_
  refine cn_S.iast (x := y) (dd DJ7_fill_53178 11 rfl) (cn_sa h) (show sk_ix 2 2 4 from ⟨by decide, by decide, by decide⟩).vp ?_
  rw [List.set_set]
  refine cn_S.iinc (i := 2) (v := 3) (dd DJ7_fill_53178 12 rfl) rfl (by decide) rfl ?_
  refine cn_S.goto (tgt := 5) (dd DJ7_fill_53178 13 rfl) (by decide) ?_
  show cn_S l G T S0 d 0 0 _ 5 [some (.ref a), some (.int v), some (.int 3), some (.int 4)] [] (cw X fs (tl.set y (a, .inl (T 0, 4, .inl (upd (upd (upd f 0 v) 1 v) 2 v))))) _
  refine cn_S.iload_n (i := 2) (dd DJ7_fill_53178 5 rfl) rfl rfl ?_
  refine cn_S.iload_n (i := 3) (dd DJ7_fill_53178 6 rfl) rfl rfl ?_
  refine cn_S.ge_f (tgt := 20) (dd DJ7_fill_53178 7 rfl) (by decide) (by decide) ?_
  refine cn_S.aload_n (i := 0) (dd DJ7_fill_53178 8 rfl) rfl rfl ?_
  refine cn_S.iload_n (i := 2) (dd DJ7_fill_53178 9 rfl) rfl rfl ?_
  refine cn_S.iload_n (i := 1) (dd DJ7_fill_53178 10 rfl) rfl rfl ?_
  refine cn_S.iast (x := y) (dd DJ7_fill_53178 11 rfl) (cn_sa h) (show sk_ix 3 3 4 from ⟨by decide, by decide, by decide⟩).vp ?_
  rw [List.set_set]
  refine cn_S.iinc (i := 2) (v := 4) (dd DJ7_fill_53178 12 rfl) rfl (by decide) rfl ?_
  refine cn_S.goto (tgt := 5) (dd DJ7_fill_53178 13 rfl) (by decide) ?_
  show cn_S l G T S0 d 0 0 _ 5 [some (.ref a), some (.int v), some (.int 4), some (.int 4)] [] (cw X fs (tl.set y (a, .inl (T 0, 4, .inl (upd (upd (upd (upd f 0 v) 1 v) 2 v) 3 v))))) _
  refine cn_S.iload_n (i := 2) (dd DJ7_fill_53178 5 rfl) rfl rfl ?_
  refine cn_S.iload_n (i := 3) (dd DJ7_fill_53178 6 rfl) rfl rfl ?_
  refine cn_S.ge_t (tgt := 20) (dd DJ7_fill_53178 7 rfl) (by decide) (by decide) ?_
  exact cn_S.ret ⟨rfl, (dd DJ7_fill_53178 14 rfl)⟩
theorem ol_X0 : Cond.methodLink RX0 3 objectInit ∈ gg_W := gg_at 125 (by decide +kernel)
set_option maxRecDepth 100000 in
set_option maxHeartbeats 4000000 in
theorem con_X0 {l : Launch} {G : va_G} {T : Nat → ClassId} {S0 d : Nat} : cn_K l G T S0 (d + 1) 0 0 MX0_init 0 [.int 0, .int 0, .int 0] (fun a fs tl => fs = [.int 0, .int 0, .int 0] ∧ tl = []) := by
  intro ws0 k a hk
  refine cn_M.of (by decide +kernel) rfl (by intro v hv; simp at hv; subst hv; rfl) (Nat.le_of_ble_eq_true rfl) ?_
  show cn_S l G T S0 (d + 1) 0 0 _ 0 [some (.ref a)] [] (cw (ws0, k, a, 0) [.int 0, .int 0, .int 0] []) _
  refine cn_S.aload_n (i := 0) (dd DX0_init 0 rfl) rfl rfl ?_
  refine cn_S.obj (dd DX0_init 1 rfl) rfl ol_X0 rfl (Nat.le_of_ble_eq_true rfl) ?_
  show cn_S _ _ _ _ _ 0 0 _ 4 [some (.ref a)] [] _ _
  exact cn_S.ret ⟨⟨_, _, ⟨rfl, rfl⟩, rfl⟩, (dd DX0_init 2 rfl)⟩
theorem ol_X1 : Cond.methodLink RX1 3 objectInit ∈ gg_W := gg_at 147 (by decide +kernel)
theorem ffX1_9 : cn_ff RX1 9 1 0 (tyX1 0) := ⟨RX1, TX1, 4, tyX1, rfl, uX1, by decide, gg_at 148 (by decide +kernel), tyX1_ok, nmX1, rfl, rfl, tyX1_ok 0 (by decide)⟩
theorem ffX1_15 : cn_ff RX1 15 1 1 (tyX1 1) := ⟨RX1, TX1, 4, tyX1, rfl, uX1, by decide, gg_at 149 (by decide +kernel), tyX1_ok, nmX1, rfl, rfl, tyX1_ok 1 (by decide)⟩
set_option maxRecDepth 100000 in
set_option maxHeartbeats 4000000 in
theorem con_X1 {l : Launch} {G : va_G} {T : Nat → ClassId} {S0 d : Nat} : cn_K l G T S0 (d + 1) 2 120 MX1_init 1 [.null, .null, .int 0, .int 0] (fun a fs tl => ∃ q7_0 q15_1, fs = [.ref q7_0, .ref q15_1, .int 0, .int 0] ∧ tl = [(q7_0, .inl (T 0, 60, .inl (fun _ => 0))), (q15_1, .inl (T 0, 60, .inl (fun _ => 0)))]) := by
  intro ws0 k a hk
  refine cn_M.of (by decide +kernel) rfl (by intro v hv; simp at hv; subst hv; rfl) (Nat.le_of_ble_eq_true rfl) ?_
  show cn_S l G T S0 (d + 1) 2 120 _ 0 [some (.ref a)] [] (cw (ws0, k, a, 1) [.null, .null, .int 0, .int 0] []) _
  refine cn_S.aload_n (i := 0) (dd DX1_init 0 rfl) rfl rfl ?_
  refine cn_S.obj (dd DX1_init 1 rfl) rfl ol_X1 rfl (Nat.le_of_ble_eq_true rfl) ?_
  show cn_S _ _ _ _ _ 2 120 _ 4 [some (.ref a)] [] _ _
  refine cn_S.aload_n (i := 0) (dd DX1_init 2 rfl) rfl rfl ?_
  refine cn_S.bipush (v := 60) (dd DX1_init 3 rfl) (by decide) ?_
  refine cn_S.newa (c := 1) (n := 60) (N := 60) (dd DX1_init 4 rfl) (by decide) (by decide) (by decide) (fun q7_0 => ?_)
  show cn_S _ _ _ _ _ 1 60 _ 9 [some (.ref a)] [.ref q7_0, .ref a] (cw _ _ [_]) _
  refine cn_S.putF (dd DX1_init 5 rfl) rfl rfl ffX1_9 hk rfl rfl (Nat.le_of_ble_eq_true rfl) ?_
  show cn_S _ _ _ _ _ 1 60 _ 12 [some (.ref a)] [] (cw _ [.ref q7_0, _, _, _] [_]) _
  refine cn_S.aload_n (i := 0) (dd DX1_init 6 rfl) rfl rfl ?_
  refine cn_S.bipush (v := 60) (dd DX1_init 7 rfl) (by decide) ?_
  refine cn_S.newa (c := 0) (n := 0) (N := 60) (dd DX1_init 8 rfl) (by decide) (by decide) (by decide) (fun q15_1 => ?_)
  show cn_S _ _ _ _ _ 0 0 _ 17 [some (.ref a)] [.ref q15_1, .ref a] (cw _ _ [_, _]) _
  refine cn_S.putF (dd DX1_init 9 rfl) rfl rfl ffX1_15 hk rfl rfl (Nat.le_of_ble_eq_true rfl) ?_
  show cn_S _ _ _ _ _ 0 0 _ 20 [some (.ref a)] [] (cw _ [_, .ref q15_1, _, _] [_, _]) _
  exact cn_S.ret ⟨⟨_, _, ⟨q7_0, q15_1, rfl, rfl⟩, rfl⟩, (dd DX1_init 10 rfl)⟩
theorem ol_X4 : Cond.methodLink RX4 3 objectInit ∈ gg_W := gg_at 289 (by decide +kernel)
theorem ffX4_9 : cn_ff RX4 9 4 0 (tyX4 0) := ⟨RX4, TX4, 3, tyX4, rfl, uX4, by decide, gg_at 290 (by decide +kernel), tyX4_ok, nmX4, rfl, rfl, tyX4_ok 0 (by decide)⟩
set_option maxRecDepth 100000 in
set_option maxHeartbeats 4000000 in
theorem con_X4 {l : Launch} {G : va_G} {T : Nat → ClassId} {S0 d : Nat} : cn_K l G T S0 (d + 1) 1 24 MX4_init 4 [.null, .int 0, .int 0] (fun a fs tl => ∃ q7_0, fs = [.ref q7_0, .int 0, .int 0] ∧ tl = [(q7_0, .inl (T 0, 24, .inl (fun _ => 0)))]) := by
  intro ws0 k a hk
  refine cn_M.of (by decide +kernel) rfl (by intro v hv; simp at hv; subst hv; rfl) (Nat.le_of_ble_eq_true rfl) ?_
  show cn_S l G T S0 (d + 1) 1 24 _ 0 [some (.ref a)] [] (cw (ws0, k, a, 4) [.null, .int 0, .int 0] []) _
  refine cn_S.aload_n (i := 0) (dd DX4_init 0 rfl) rfl rfl ?_
  refine cn_S.obj (dd DX4_init 1 rfl) rfl ol_X4 rfl (Nat.le_of_ble_eq_true rfl) ?_
  show cn_S _ _ _ _ _ 1 24 _ 4 [some (.ref a)] [] _ _
  refine cn_S.aload_n (i := 0) (dd DX4_init 2 rfl) rfl rfl ?_
  refine cn_S.bipush (v := 24) (dd DX4_init 3 rfl) (by decide) ?_
  refine cn_S.newa (c := 0) (n := 0) (N := 24) (dd DX4_init 4 rfl) (by decide) (by decide) (by decide) (fun q7_0 => ?_)
  show cn_S _ _ _ _ _ 0 0 _ 9 [some (.ref a)] [.ref q7_0, .ref a] (cw _ _ [_]) _
  refine cn_S.putF (dd DX4_init 5 rfl) rfl rfl ffX4_9 hk rfl rfl (Nat.le_of_ble_eq_true rfl) ?_
  show cn_S _ _ _ _ _ 0 0 _ 12 [some (.ref a)] [] (cw _ [.ref q7_0, _, _] [_]) _
  exact cn_S.ret ⟨⟨_, _, ⟨q7_0, rfl, rfl⟩, rfl⟩, (dd DX4_init 6 rfl)⟩
theorem ol_X6 : Cond.methodLink RX6 3 objectInit ∈ gg_W := gg_at 260 (by decide +kernel)
theorem ffX6_9 : cn_ff RX6 9 5 0 (tyX6 0) := ⟨RX6, TX6, 6, tyX6, rfl, uX6, by decide, gg_at 261 (by decide +kernel), tyX6_ok, nmX6, rfl, rfl, tyX6_ok 0 (by decide)⟩
set_option maxRecDepth 100000 in
set_option maxHeartbeats 4000000 in
theorem con_X6 {l : Launch} {G : va_G} {T : Nat → ClassId} {S0 d : Nat} : cn_K l G T S0 (d + 1) 1 30 MX6_init 5 [.null, .int 0, .int 0, .int 0, .int 0, .int 0] (fun a fs tl => ∃ q7_0, fs = [.ref q7_0, .int 0, .int 0, .int 0, .int 0, .int 0] ∧ tl = [(q7_0, .inl (T 0, 30, .inl (fun _ => 0)))]) := by
  intro ws0 k a hk
  refine cn_M.of (by decide +kernel) rfl (by intro v hv; simp at hv; subst hv; rfl) (Nat.le_of_ble_eq_true rfl) ?_
  show cn_S l G T S0 (d + 1) 1 30 _ 0 [some (.ref a)] [] (cw (ws0, k, a, 5) [.null, .int 0, .int 0, .int 0, .int 0, .int 0] []) _
  refine cn_S.aload_n (i := 0) (dd DX6_init 0 rfl) rfl rfl ?_
  refine cn_S.obj (dd DX6_init 1 rfl) rfl ol_X6 rfl (Nat.le_of_ble_eq_true rfl) ?_
  show cn_S _ _ _ _ _ 1 30 _ 4 [some (.ref a)] [] _ _
  refine cn_S.aload_n (i := 0) (dd DX6_init 2 rfl) rfl rfl ?_
  refine cn_S.bipush (v := 30) (dd DX6_init 3 rfl) (by decide) ?_
  refine cn_S.newa (c := 0) (n := 0) (N := 30) (dd DX6_init 4 rfl) (by decide) (by decide) (by decide) (fun q7_0 => ?_)
  show cn_S _ _ _ _ _ 0 0 _ 9 [some (.ref a)] [.ref q7_0, .ref a] (cw _ _ [_]) _
  refine cn_S.putF (dd DX6_init 5 rfl) rfl rfl ffX6_9 hk rfl rfl (Nat.le_of_ble_eq_true rfl) ?_
  show cn_S _ _ _ _ _ 0 0 _ 12 [some (.ref a)] [] (cw _ [.ref q7_0, _, _, _, _, _] [_]) _
  exact cn_S.ret ⟨⟨_, _, ⟨q7_0, rfl, rfl⟩, rfl⟩, (dd DX6_init 6 rfl)⟩
theorem ol_X3 : Cond.methodLink RX3 3 objectInit ∈ gg_W := gg_at 233 (by decide +kernel)
theorem ffX3_9 : cn_ff RX3 9 3 0 (tyX3 0) := ⟨RX3, TX3, 6, tyX3, rfl, uX3, by decide, gg_at 234 (by decide +kernel), tyX3_ok, nmX3, rfl, rfl, tyX3_ok 0 (by decide)⟩
theorem ffX3_15 : cn_ff RX3 15 3 2 (tyX3 2) := ⟨RX3, TX3, 6, tyX3, rfl, uX3, by decide, gg_at 238 (by decide +kernel), tyX3_ok, nmX3, rfl, rfl, tyX3_ok 2 (by decide)⟩
set_option maxRecDepth 100000 in
set_option maxHeartbeats 4000000 in
theorem con_X3 {l : Launch} {G : va_G} {T : Nat → ClassId} {S0 d : Nat} : cn_K l G T S0 (d + 1) 2 120 MX3_init 3 [.null, .int 0, .null, .int 0, .int 0, .int 0] (fun a fs tl => ∃ q7_0 q15_1, fs = [.ref q7_0, .int 0, .ref q15_1, .int 0, .int 0, .int 0] ∧ tl = [(q7_0, .inl (T 0, 60, .inl (fun _ => 0))), (q15_1, .inl (T 0, 60, .inl (fun _ => 0)))]) := by
  intro ws0 k a hk
  refine cn_M.of (by decide +kernel) rfl (by intro v hv; simp at hv; subst hv; rfl) (Nat.le_of_ble_eq_true rfl) ?_
  show cn_S l G T S0 (d + 1) 2 120 _ 0 [some (.ref a)] [] (cw (ws0, k, a, 3) [.null, .int 0, .null, .int 0, .int 0, .int 0] []) _
  refine cn_S.aload_n (i := 0) (dd DX3_init 0 rfl) rfl rfl ?_
  refine cn_S.obj (dd DX3_init 1 rfl) rfl ol_X3 rfl (Nat.le_of_ble_eq_true rfl) ?_
  show cn_S _ _ _ _ _ 2 120 _ 4 [some (.ref a)] [] _ _
  refine cn_S.aload_n (i := 0) (dd DX3_init 2 rfl) rfl rfl ?_
  refine cn_S.bipush (v := 60) (dd DX3_init 3 rfl) (by decide) ?_
  refine cn_S.newa (c := 1) (n := 60) (N := 60) (dd DX3_init 4 rfl) (by decide) (by decide) (by decide) (fun q7_0 => ?_)
  show cn_S _ _ _ _ _ 1 60 _ 9 [some (.ref a)] [.ref q7_0, .ref a] (cw _ _ [_]) _
  refine cn_S.putF (dd DX3_init 5 rfl) rfl rfl ffX3_9 hk rfl rfl (Nat.le_of_ble_eq_true rfl) ?_
  show cn_S _ _ _ _ _ 1 60 _ 12 [some (.ref a)] [] (cw _ [.ref q7_0, _, _, _, _, _] [_]) _
  refine cn_S.aload_n (i := 0) (dd DX3_init 6 rfl) rfl rfl ?_
  refine cn_S.bipush (v := 60) (dd DX3_init 7 rfl) (by decide) ?_
  refine cn_S.newa (c := 0) (n := 0) (N := 60) (dd DX3_init 8 rfl) (by decide) (by decide) (by decide) (fun q15_1 => ?_)
  show cn_S _ _ _ _ _ 0 0 _ 17 [some (.ref a)] [.ref q15_1, .ref a] (cw _ _ [_, _]) _
  refine cn_S.putF (dd DX3_init 9 rfl) rfl rfl ffX3_15 hk rfl rfl (Nat.le_of_ble_eq_true rfl) ?_
  show cn_S _ _ _ _ _ 0 0 _ 20 [some (.ref a)] [] (cw _ [_, _, .ref q15_1, _, _, _] [_, _]) _
  exact cn_S.ret ⟨⟨_, _, ⟨q7_0, q15_1, rfl, rfl⟩, rfl⟩, (dd DX3_init 10 rfl)⟩
theorem ol_X2 : Cond.methodLink RX2 3 objectInit ∈ gg_W := gg_at 113 (by decide +kernel)
theorem ffX2_9 : cn_ff RX2 9 2 0 (tyX2 0) := ⟨RX2, TX2, 15, tyX2, rfl, uX2, by decide, gg_at 162 (by decide +kernel), tyX2_ok, nmX2, rfl, rfl, tyX2_ok 0 (by decide)⟩
theorem ffX2_15 : cn_ff RX2 15 2 1 (tyX2 1) := ⟨RX2, TX2, 15, tyX2, rfl, uX2, by decide, gg_at 165 (by decide +kernel), tyX2_ok, nmX2, rfl, rfl, tyX2_ok 1 (by decide)⟩
theorem ffX2_20 : cn_ff RX2 20 2 2 (tyX2 2) := ⟨RX2, TX2, 15, tyX2, rfl, uX2, by decide, gg_at 168 (by decide +kernel), tyX2_ok, nmX2, rfl, rfl, tyX2_ok 2 (by decide)⟩
theorem ffX2_26 : cn_ff RX2 26 2 3 (tyX2 3) := ⟨RX2, TX2, 15, tyX2, rfl, uX2, by decide, gg_at 170 (by decide +kernel), tyX2_ok, nmX2, rfl, rfl, tyX2_ok 3 (by decide)⟩
theorem ffX2_30 : cn_ff RX2 30 2 4 (tyX2 4) := ⟨RX2, TX2, 15, tyX2, rfl, uX2, by decide, gg_at 172 (by decide +kernel), tyX2_ok, nmX2, rfl, rfl, tyX2_ok 4 (by decide)⟩
theorem ffX2_33 : cn_ff RX2 33 2 5 (tyX2 5) := ⟨RX2, TX2, 15, tyX2, rfl, uX2, by decide, gg_at 174 (by decide +kernel), tyX2_ok, nmX2, rfl, rfl, tyX2_ok 5 (by decide)⟩
theorem nwX2_18 : cn_nw RX2 18 0 3 [.int 0, .int 0, .int 0] := ⟨RX0, TX0, tyX0, rfl, uX0, tyX0_ok, gg_at 114 (by decide +kernel), gg_at 121 (by decide +kernel), gg_at 86 (by decide +kernel), fun j hj => by
  rcases (by omega : j = 0 ∨ j = 1 ∨ j = 2) with rfl | rfl | rfl <;> rfl⟩
theorem ciX2_49 : cn_ci RX2 49 MX0_init := ⟨aX0_init, gg_at 86 (by decide +kernel), ⟨by decide, by decide, by decide +kernel⟩, by decide, rfl, rfl, gg_at 123 (by decide +kernel), Or.inr ⟨"PromisedFish", nn_at 40 (by decide +kernel)⟩⟩
theorem nwX2_24 : cn_nw RX2 24 1 4 [.null, .null, .int 0, .int 0] := ⟨RX1, TX1, tyX1, rfl, uX1, tyX1_ok, gg_at 116 (by decide +kernel), gg_at 143 (by decide +kernel), gg_at 87 (by decide +kernel), fun j hj => by
  rcases (by omega : j = 0 ∨ j = 1 ∨ j = 2 ∨ j = 3) with rfl | rfl | rfl | rfl <;> rfl⟩
theorem ciX2_50 : cn_ci RX2 50 MX1_init := ⟨aX1_init, gg_at 87 (by decide +kernel), ⟨by decide, by decide, by decide +kernel⟩, by decide, rfl, rfl, gg_at 145 (by decide +kernel), Or.inr ⟨"PromisedFish", nn_at 62 (by decide +kernel)⟩⟩
set_option maxRecDepth 100000 in
set_option maxHeartbeats 4000000 in
theorem con_X2 {l : Launch} {G : va_G} {T : Nat → ClassId} {S0 d : Nat} : cn_K l G T S0 (d + 2) 18 366 MX2_init 2 [.null, .null, .null, .null, .null, .null, .int 0, .int 0, .int 0, .int 0, .int 0, .int 0, .int 0, .int 0, .int 0] (fun a fs tl => ∃ q6_0 q13_1 q21_2 q29_3 q38_4 q46_5 q83_6 q83_8 q83_10 q83_12 q83_14 q83_16 q109_18 q7_0_113_19 q15_1_113_19 q109_20 q7_0_113_21 q15_1_113_21, fs = [.ref q6_0, .ref q13_1, .ref q21_2, .ref q29_3, .ref q38_4, .ref q46_5, .int 0, .int 0, .int 0, .int 0, .int 0, .int 20, .int 0, .int 0, .int 1] ∧ tl = [(q6_0, .inl (T 0, 4, .inl (fun _ => 0))), (q13_1, .inl (T 0, 4, .inl (upd (upd (upd (upd (fun _ => 0) 0 2) 1 2) 2 2) 3 2))), (q21_2, .inl (T 1, 6, .inr (.inr (.inr (.inr (va_up (va_up (va_up (va_up (va_up (va_up (fun _ => none) 0 (some q83_6)) 1 (some q83_8)) 2 (some q83_10)) 3 (some q83_12)) 4 (some q83_14)) 5 (some q83_16))))))), (q29_3, .inl (T 2, 2, .inr (.inr (.inr (.inr (va_up (va_up (fun _ => none) 0 (some q109_18)) 1 (some q109_20))))))), (q38_4, .inl (T 0, 60, .inl (fun _ => 0))), (q46_5, .inl (T 0, 24, .inl (fun _ => 0))), (q83_6, .inr (0, [.int 0, .int 0, .int 0])), (q83_8, .inr (0, [.int 0, .int 0, .int 0])), (q83_10, .inr (0, [.int 0, .int 0, .int 0])), (q83_12, .inr (0, [.int 0, .int 0, .int 0])), (q83_14, .inr (0, [.int 0, .int 0, .int 0])), (q83_16, .inr (0, [.int 0, .int 0, .int 0])), (q109_18, .inr (1, [.ref q7_0_113_19, .ref q15_1_113_19, .int 0, .int 0])), (q7_0_113_19, .inl (T 0, 60, .inl (fun _ => 0))), (q15_1_113_19, .inl (T 0, 60, .inl (fun _ => 0))), (q109_20, .inr (1, [.ref q7_0_113_21, .ref q15_1_113_21, .int 0, .int 0])), (q7_0_113_21, .inl (T 0, 60, .inl (fun _ => 0))), (q15_1_113_21, .inl (T 0, 60, .inl (fun _ => 0)))]) := by
  intro ws0 k a hk
  refine cn_M.of (by decide +kernel) rfl (by intro v hv; simp at hv; subst hv; rfl) (Nat.le_of_ble_eq_true rfl) ?_
  show cn_S l G T S0 (d + 2) 18 366 _ 0 [some (.ref a), none] [] (cw (ws0, k, a, 2) [.null, .null, .null, .null, .null, .null, .int 0, .int 0, .int 0, .int 0, .int 0, .int 0, .int 0, .int 0, .int 0] []) _
  refine cn_S.aload_n (i := 0) (dd DX2_init 0 rfl) rfl rfl ?_
  refine cn_S.obj (dd DX2_init 1 rfl) rfl ol_X2 rfl (Nat.le_of_ble_eq_true rfl) ?_
  show cn_S _ _ _ _ _ 18 366 _ 4 [some (.ref a), none] [] _ _
  refine cn_S.aload_n (i := 0) (dd DX2_init 2 rfl) rfl rfl ?_
  refine cn_S.iconst (v := 4) (dd DX2_init 3 rfl) (by decide) ?_
  refine cn_S.newa (c := 17) (n := 362) (N := 4) (dd DX2_init 4 rfl) (by decide) (by decide) (by decide) (fun q6_0 => ?_)
  show cn_S _ _ _ _ _ 17 362 _ 8 [some (.ref a), none] [.ref q6_0, .ref a] (cw _ _ [_]) _
  refine cn_S.putF (dd DX2_init 5 rfl) rfl rfl ffX2_9 hk rfl rfl (Nat.le_of_ble_eq_true rfl) ?_
  show cn_S _ _ _ _ _ 17 362 _ 11 [some (.ref a), none] [] (cw _ [.ref q6_0, _, _, _, _, _, _, _, _, _, _, _, _, _, _] [_]) _
  refine cn_S.aload_n (i := 0) (dd DX2_init 6 rfl) rfl rfl ?_
  refine cn_S.iconst (v := 4) (dd DX2_init 7 rfl) (by decide) ?_
  refine cn_S.newa (c := 16) (n := 358) (N := 4) (dd DX2_init 8 rfl) (by decide) (by decide) (by decide) (fun q13_1 => ?_)
  show cn_S _ _ _ _ _ 16 358 _ 15 [some (.ref a), none] [.ref q13_1, .ref a] (cw _ _ [_, _]) _
  refine cn_S.putF (dd DX2_init 9 rfl) rfl rfl ffX2_15 hk rfl rfl (Nat.le_of_ble_eq_true rfl) ?_
  show cn_S _ _ _ _ _ 16 358 _ 18 [some (.ref a), none] [] (cw _ [_, .ref q13_1, _, _, _, _, _, _, _, _, _, _, _, _, _] [_, _]) _
  refine cn_S.aload_n (i := 0) (dd DX2_init 10 rfl) rfl rfl ?_
  refine cn_S.bipush (v := 6) (dd DX2_init 11 rfl) (by decide) ?_
  refine cn_S.newq (c := 15) (n := 352) (N := 6) (t := 1) (dd DX2_init 12 rfl) rfl (gg_at 114 (by decide +kernel)) rfl (by decide) (by decide) (by decide) (by decide) (fun q21_2 => ?_)
  show cn_S _ _ _ _ _ 15 352 _ 24 [some (.ref a), none] [.ref q21_2, .ref a] (cw _ _ [_, _, _]) _
  refine cn_S.putF (dd DX2_init 13 rfl) rfl rfl ffX2_20 hk rfl rfl (Nat.le_of_ble_eq_true rfl) ?_
  show cn_S _ _ _ _ _ 15 352 _ 27 [some (.ref a), none] [] (cw _ [_, _, .ref q21_2, _, _, _, _, _, _, _, _, _, _, _, _] [_, _, _]) _
  refine cn_S.aload_n (i := 0) (dd DX2_init 14 rfl) rfl rfl ?_
  refine cn_S.iconst (v := 2) (dd DX2_init 15 rfl) (by decide) ?_
  refine cn_S.newq (c := 14) (n := 350) (N := 2) (t := 2) (dd DX2_init 16 rfl) rfl (gg_at 116 (by decide +kernel)) rfl (by decide) (by decide) (by decide) (by decide) (fun q29_3 => ?_)
  show cn_S _ _ _ _ _ 14 350 _ 32 [some (.ref a), none] [.ref q29_3, .ref a] (cw _ _ [_, _, _, _]) _
  refine cn_S.putF (dd DX2_init 17 rfl) rfl rfl ffX2_26 hk rfl rfl (Nat.le_of_ble_eq_true rfl) ?_
  show cn_S _ _ _ _ _ 14 350 _ 35 [some (.ref a), none] [] (cw _ [_, _, _, .ref q29_3, _, _, _, _, _, _, _, _, _, _, _] [_, _, _, _]) _
  refine cn_S.aload_n (i := 0) (dd DX2_init 18 rfl) rfl rfl ?_
  refine cn_S.bipush (v := 60) (dd DX2_init 19 rfl) (by decide) ?_
  refine cn_S.newa (c := 13) (n := 290) (N := 60) (dd DX2_init 20 rfl) (by decide) (by decide) (by decide) (fun q38_4 => ?_)
  show cn_S _ _ _ _ _ 13 290 _ 40 [some (.ref a), none] [.ref q38_4, .ref a] (cw _ _ [_, _, _, _, _]) _
  refine cn_S.putF (dd DX2_init 21 rfl) rfl rfl ffX2_30 hk rfl rfl (Nat.le_of_ble_eq_true rfl) ?_
  show cn_S _ _ _ _ _ 13 290 _ 43 [some (.ref a), none] [] (cw _ [_, _, _, _, .ref q38_4, _, _, _, _, _, _, _, _, _, _] [_, _, _, _, _]) _
  refine cn_S.aload_n (i := 0) (dd DX2_init 22 rfl) rfl rfl ?_
  refine cn_S.bipush (v := 24) (dd DX2_init 23 rfl) (by decide) ?_
  refine cn_S.newa (c := 12) (n := 266) (N := 24) (dd DX2_init 24 rfl) (by decide) (by decide) (by decide) (fun q46_5 => ?_)
  show cn_S _ _ _ _ _ 12 266 _ 48 [some (.ref a), none] [.ref q46_5, .ref a] (cw _ _ [_, _, _, _, _, _]) _
  refine cn_S.putF (dd DX2_init 25 rfl) rfl rfl ffX2_33 hk rfl rfl (Nat.le_of_ble_eq_true rfl) ?_
  show cn_S _ _ _ _ _ 12 266 _ 51 [some (.ref a), none] [] (cw _ [_, _, _, _, _, .ref q46_5, _, _, _, _, _, _, _, _, _] [_, _, _, _, _, _]) _
  refine cn_S.aload_n (i := 0) (dd DX2_init 26 rfl) rfl rfl ?_
  refine cn_S.bipush (v := 20) (dd DX2_init 27 rfl) (by decide) ?_
  refine cn_S.put (dd DX2_init 28 rfl) rfl pX2_36 hk rfl rfl (Nat.le_of_ble_eq_true rfl) ?_
  show cn_S _ _ _ _ _ 12 266 _ 57 [some (.ref a), none] [] (cw _ [_, _, _, _, _, _, _, _, _, _, _, .int 20, _, _, _] [_, _, _, _, _, _]) _
  refine cn_S.aload_n (i := 0) (dd DX2_init 29 rfl) rfl rfl ?_
  refine cn_S.iconst (v := 1) (dd DX2_init 30 rfl) (by decide) ?_
  refine cn_S.put (dd DX2_init 31 rfl) rfl pX2_40 hk rfl rfl (Nat.le_of_ble_eq_true rfl) ?_
  show cn_S _ _ _ _ _ 12 266 _ 62 [some (.ref a), none] [] (cw _ [_, _, _, _, _, _, _, _, _, _, _, _, _, _, .int 1] [_, _, _, _, _, _]) _
  refine cn_S.aload_n (i := 0) (dd DX2_init 32 rfl) rfl rfl ?_
  refine cn_S.get (dd DX2_init 33 rfl) rfl fX2_15 hk rfl ?_
  refine cn_S.iconst (v := 2) (dd DX2_init 34 rfl) (by decide) ?_
  refine cn_S.stat (as := [.ref q13_1, .int 2]) (dd DX2_init 35 rfl) rfl kX2_43 rfl (cn_fill (y := 1) rfl) rfl rfl (Nat.le_of_ble_eq_true rfl) (fun w1 hw => ?_)
  subst hw
  show cn_S _ _ _ _ _ 12 266 _ 70 [some (.ref a), none] [] (cw _ _ [_, (q13_1, .inl (T 0, 4, .inl (upd (upd (upd (upd (fun _ => 0) 0 2) 1 2) 2 2) 3 2))), _, _, _, _]) _
  refine cn_S.iconst (v := 0) (dd DX2_init 36 rfl) (by decide) ?_
  refine cn_S.istore_n (i := 1) (dd DX2_init 37 rfl) rfl (Nat.le_of_ble_eq_true rfl) rfl ?_
  show cn_S _ _ _ _ _ 12 266 _ 72 [some (.ref a), some (.int 0)] [] _ _
  refine cn_S.iload_n (i := 1) (dd DX2_init 38 rfl) rfl rfl ?_
  refine cn_S.bipush (v := 6) (dd DX2_init 39 rfl) (by decide) ?_
  refine cn_S.ge_f (tgt := 97) (dd DX2_init 40 rfl) (by decide) (by decide) ?_
  refine cn_S.aload_n (i := 0) (dd DX2_init 41 rfl) rfl rfl ?_
  refine cn_S.get (dd DX2_init 42 rfl) rfl fX2_20 hk rfl ?_
  refine cn_S.iload_n (i := 1) (dd DX2_init 43 rfl) rfl rfl ?_
  refine cn_S.new (own := RX2) (c := 11) (n := 263) (dd DX2_init 44 rfl) rfl nwX2_18 (fun q83_6 => ?_)
  show cn_S _ _ _ _ _ 11 263 _ 86 [some (.ref a), some (.int 0)] [.ref q83_6, .int 0, .ref q21_2] (cw _ _ [_, _, _, _, _, _, _]) _
  refine cn_S.dup (dd DX2_init 45 rfl) ?_
  refine cn_S.init (c := 11) (n := 263) (y := 6) (dd DX2_init 46 rfl) rfl ciX2_49 con_X0 rfl rfl (Nat.le_of_ble_eq_true rfl) (fun f1 t1 hq => ?_)
  obtain ⟨rfl, rfl⟩ := hq
  show cn_S _ _ _ _ _ 11 263 _ 90 [some (.ref a), some (.int 0)] [.ref q83_6, .int 0, .ref q21_2] (cw _ _ [_, _, _, _, _, _, (q83_6, .inr (0, [.int 0, .int 0, .int 0]))]) _
  refine cn_S.aast (t := 1) (x := 2) (y := 6) (dd DX2_init 47 rfl) rfl rfl rfl rfl (show sk_ix 0 0 6 from ⟨by decide, by decide, by decide⟩).vp ?_
  show cn_S _ _ _ _ _ 11 263 _ 91 [some (.ref a), some (.int 0)] [] (cw _ _ [_, _, (q21_2, .inl (T 1, 6, .inr (.inr (.inr (.inr (va_up (fun _ => none) 0 (some q83_6))))))), _, _, _, _]) _
  refine cn_S.iinc (i := 1) (v := 1) (dd DX2_init 48 rfl) rfl (by decide) rfl ?_
  show cn_S _ _ _ _ _ 11 263 _ 94 [some (.ref a), some (.int 1)] [] _ _
  refine cn_S.goto (tgt := 72) (dd DX2_init 49 rfl) (by decide) ?_
  refine cn_S.iload_n (i := 1) (dd DX2_init 38 rfl) rfl rfl ?_
  refine cn_S.bipush (v := 6) (dd DX2_init 39 rfl) (by decide) ?_
  refine cn_S.ge_f (tgt := 97) (dd DX2_init 40 rfl) (by decide) (by decide) ?_
  refine cn_S.aload_n (i := 0) (dd DX2_init 41 rfl) rfl rfl ?_
  refine cn_S.get (dd DX2_init 42 rfl) rfl fX2_20 hk rfl ?_
  refine cn_S.iload_n (i := 1) (dd DX2_init 43 rfl) rfl rfl ?_
  refine cn_S.new (own := RX2) (c := 10) (n := 260) (dd DX2_init 44 rfl) rfl nwX2_18 (fun q83_8 => ?_)
  show cn_S _ _ _ _ _ 10 260 _ 86 [some (.ref a), some (.int 1)] [.ref q83_8, .int 1, .ref q21_2] (cw _ _ [_, _, _, _, _, _, _, _]) _
  refine cn_S.dup (dd DX2_init 45 rfl) ?_
  refine cn_S.init (c := 10) (n := 260) (y := 7) (dd DX2_init 46 rfl) rfl ciX2_49 con_X0 rfl rfl (Nat.le_of_ble_eq_true rfl) (fun f1 t1 hq => ?_)
  obtain ⟨rfl, rfl⟩ := hq
  show cn_S _ _ _ _ _ 10 260 _ 90 [some (.ref a), some (.int 1)] [.ref q83_8, .int 1, .ref q21_2] (cw _ _ [_, _, _, _, _, _, _, (q83_8, .inr (0, [.int 0, .int 0, .int 0]))]) _
  refine cn_S.aast (t := 1) (x := 2) (y := 7) (dd DX2_init 47 rfl) rfl rfl rfl rfl (show sk_ix 1 1 6 from ⟨by decide, by decide, by decide⟩).vp ?_
  show cn_S _ _ _ _ _ 10 260 _ 91 [some (.ref a), some (.int 1)] [] (cw _ _ [_, _, (q21_2, .inl (T 1, 6, .inr (.inr (.inr (.inr (va_up (va_up (fun _ => none) 0 (some q83_6)) 1 (some q83_8))))))), _, _, _, _, _]) _
  refine cn_S.iinc (i := 1) (v := 2) (dd DX2_init 48 rfl) rfl (by decide) rfl ?_
  show cn_S _ _ _ _ _ 10 260 _ 94 [some (.ref a), some (.int 2)] [] _ _
  refine cn_S.goto (tgt := 72) (dd DX2_init 49 rfl) (by decide) ?_
  refine cn_S.iload_n (i := 1) (dd DX2_init 38 rfl) rfl rfl ?_
  refine cn_S.bipush (v := 6) (dd DX2_init 39 rfl) (by decide) ?_
  refine cn_S.ge_f (tgt := 97) (dd DX2_init 40 rfl) (by decide) (by decide) ?_
  refine cn_S.aload_n (i := 0) (dd DX2_init 41 rfl) rfl rfl ?_
  refine cn_S.get (dd DX2_init 42 rfl) rfl fX2_20 hk rfl ?_
  refine cn_S.iload_n (i := 1) (dd DX2_init 43 rfl) rfl rfl ?_
  refine cn_S.new (own := RX2) (c := 9) (n := 257) (dd DX2_init 44 rfl) rfl nwX2_18 (fun q83_10 => ?_)
  show cn_S _ _ _ _ _ 9 257 _ 86 [some (.ref a), some (.int 2)] [.ref q83_10, .int 2, .ref q21_2] (cw _ _ [_, _, _, _, _, _, _, _, _]) _
  refine cn_S.dup (dd DX2_init 45 rfl) ?_
  refine cn_S.init (c := 9) (n := 257) (y := 8) (dd DX2_init 46 rfl) rfl ciX2_49 con_X0 rfl rfl (Nat.le_of_ble_eq_true rfl) (fun f1 t1 hq => ?_)
  obtain ⟨rfl, rfl⟩ := hq
  show cn_S _ _ _ _ _ 9 257 _ 90 [some (.ref a), some (.int 2)] [.ref q83_10, .int 2, .ref q21_2] (cw _ _ [_, _, _, _, _, _, _, _, (q83_10, .inr (0, [.int 0, .int 0, .int 0]))]) _
  refine cn_S.aast (t := 1) (x := 2) (y := 8) (dd DX2_init 47 rfl) rfl rfl rfl rfl (show sk_ix 2 2 6 from ⟨by decide, by decide, by decide⟩).vp ?_
  show cn_S _ _ _ _ _ 9 257 _ 91 [some (.ref a), some (.int 2)] [] (cw _ _ [_, _, (q21_2, .inl (T 1, 6, .inr (.inr (.inr (.inr (va_up (va_up (va_up (fun _ => none) 0 (some q83_6)) 1 (some q83_8)) 2 (some q83_10))))))), _, _, _, _, _, _]) _
  refine cn_S.iinc (i := 1) (v := 3) (dd DX2_init 48 rfl) rfl (by decide) rfl ?_
  show cn_S _ _ _ _ _ 9 257 _ 94 [some (.ref a), some (.int 3)] [] _ _
  refine cn_S.goto (tgt := 72) (dd DX2_init 49 rfl) (by decide) ?_
  refine cn_S.iload_n (i := 1) (dd DX2_init 38 rfl) rfl rfl ?_
  refine cn_S.bipush (v := 6) (dd DX2_init 39 rfl) (by decide) ?_
  refine cn_S.ge_f (tgt := 97) (dd DX2_init 40 rfl) (by decide) (by decide) ?_
  refine cn_S.aload_n (i := 0) (dd DX2_init 41 rfl) rfl rfl ?_
  refine cn_S.get (dd DX2_init 42 rfl) rfl fX2_20 hk rfl ?_
  refine cn_S.iload_n (i := 1) (dd DX2_init 43 rfl) rfl rfl ?_
  refine cn_S.new (own := RX2) (c := 8) (n := 254) (dd DX2_init 44 rfl) rfl nwX2_18 (fun q83_12 => ?_)
  show cn_S _ _ _ _ _ 8 254 _ 86 [some (.ref a), some (.int 3)] [.ref q83_12, .int 3, .ref q21_2] (cw _ _ [_, _, _, _, _, _, _, _, _, _]) _
  refine cn_S.dup (dd DX2_init 45 rfl) ?_
  refine cn_S.init (c := 8) (n := 254) (y := 9) (dd DX2_init 46 rfl) rfl ciX2_49 con_X0 rfl rfl (Nat.le_of_ble_eq_true rfl) (fun f1 t1 hq => ?_)
  obtain ⟨rfl, rfl⟩ := hq
  show cn_S _ _ _ _ _ 8 254 _ 90 [some (.ref a), some (.int 3)] [.ref q83_12, .int 3, .ref q21_2] (cw _ _ [_, _, _, _, _, _, _, _, _, (q83_12, .inr (0, [.int 0, .int 0, .int 0]))]) _
  refine cn_S.aast (t := 1) (x := 2) (y := 9) (dd DX2_init 47 rfl) rfl rfl rfl rfl (show sk_ix 3 3 6 from ⟨by decide, by decide, by decide⟩).vp ?_
  show cn_S _ _ _ _ _ 8 254 _ 91 [some (.ref a), some (.int 3)] [] (cw _ _ [_, _, (q21_2, .inl (T 1, 6, .inr (.inr (.inr (.inr (va_up (va_up (va_up (va_up (fun _ => none) 0 (some q83_6)) 1 (some q83_8)) 2 (some q83_10)) 3 (some q83_12))))))), _, _, _, _, _, _, _]) _
  refine cn_S.iinc (i := 1) (v := 4) (dd DX2_init 48 rfl) rfl (by decide) rfl ?_
  show cn_S _ _ _ _ _ 8 254 _ 94 [some (.ref a), some (.int 4)] [] _ _
  refine cn_S.goto (tgt := 72) (dd DX2_init 49 rfl) (by decide) ?_
  refine cn_S.iload_n (i := 1) (dd DX2_init 38 rfl) rfl rfl ?_
  refine cn_S.bipush (v := 6) (dd DX2_init 39 rfl) (by decide) ?_
  refine cn_S.ge_f (tgt := 97) (dd DX2_init 40 rfl) (by decide) (by decide) ?_
  refine cn_S.aload_n (i := 0) (dd DX2_init 41 rfl) rfl rfl ?_
  refine cn_S.get (dd DX2_init 42 rfl) rfl fX2_20 hk rfl ?_
  refine cn_S.iload_n (i := 1) (dd DX2_init 43 rfl) rfl rfl ?_
  refine cn_S.new (own := RX2) (c := 7) (n := 251) (dd DX2_init 44 rfl) rfl nwX2_18 (fun q83_14 => ?_)
  show cn_S _ _ _ _ _ 7 251 _ 86 [some (.ref a), some (.int 4)] [.ref q83_14, .int 4, .ref q21_2] (cw _ _ [_, _, _, _, _, _, _, _, _, _, _]) _
  refine cn_S.dup (dd DX2_init 45 rfl) ?_
  refine cn_S.init (c := 7) (n := 251) (y := 10) (dd DX2_init 46 rfl) rfl ciX2_49 con_X0 rfl rfl (Nat.le_of_ble_eq_true rfl) (fun f1 t1 hq => ?_)
  obtain ⟨rfl, rfl⟩ := hq
  show cn_S _ _ _ _ _ 7 251 _ 90 [some (.ref a), some (.int 4)] [.ref q83_14, .int 4, .ref q21_2] (cw _ _ [_, _, _, _, _, _, _, _, _, _, (q83_14, .inr (0, [.int 0, .int 0, .int 0]))]) _
  refine cn_S.aast (t := 1) (x := 2) (y := 10) (dd DX2_init 47 rfl) rfl rfl rfl rfl (show sk_ix 4 4 6 from ⟨by decide, by decide, by decide⟩).vp ?_
  show cn_S _ _ _ _ _ 7 251 _ 91 [some (.ref a), some (.int 4)] [] (cw _ _ [_, _, (q21_2, .inl (T 1, 6, .inr (.inr (.inr (.inr (va_up (va_up (va_up (va_up (va_up (fun _ => none) 0 (some q83_6)) 1 (some q83_8)) 2 (some q83_10)) 3 (some q83_12)) 4 (some q83_14))))))), _, _, _, _, _, _, _, _]) _
  refine cn_S.iinc (i := 1) (v := 5) (dd DX2_init 48 rfl) rfl (by decide) rfl ?_
  show cn_S _ _ _ _ _ 7 251 _ 94 [some (.ref a), some (.int 5)] [] _ _
  refine cn_S.goto (tgt := 72) (dd DX2_init 49 rfl) (by decide) ?_
  refine cn_S.iload_n (i := 1) (dd DX2_init 38 rfl) rfl rfl ?_
  refine cn_S.bipush (v := 6) (dd DX2_init 39 rfl) (by decide) ?_
  refine cn_S.ge_f (tgt := 97) (dd DX2_init 40 rfl) (by decide) (by decide) ?_
  refine cn_S.aload_n (i := 0) (dd DX2_init 41 rfl) rfl rfl ?_
  refine cn_S.get (dd DX2_init 42 rfl) rfl fX2_20 hk rfl ?_
  refine cn_S.iload_n (i := 1) (dd DX2_init 43 rfl) rfl rfl ?_
  refine cn_S.new (own := RX2) (c := 6) (n := 248) (dd DX2_init 44 rfl) rfl nwX2_18 (fun q83_16 => ?_)
  show cn_S _ _ _ _ _ 6 248 _ 86 [some (.ref a), some (.int 5)] [.ref q83_16, .int 5, .ref q21_2] (cw _ _ [_, _, _, _, _, _, _, _, _, _, _, _]) _
  refine cn_S.dup (dd DX2_init 45 rfl) ?_
  refine cn_S.init (c := 6) (n := 248) (y := 11) (dd DX2_init 46 rfl) rfl ciX2_49 con_X0 rfl rfl (Nat.le_of_ble_eq_true rfl) (fun f1 t1 hq => ?_)
  obtain ⟨rfl, rfl⟩ := hq
  show cn_S _ _ _ _ _ 6 248 _ 90 [some (.ref a), some (.int 5)] [.ref q83_16, .int 5, .ref q21_2] (cw _ _ [_, _, _, _, _, _, _, _, _, _, _, (q83_16, .inr (0, [.int 0, .int 0, .int 0]))]) _
  refine cn_S.aast (t := 1) (x := 2) (y := 11) (dd DX2_init 47 rfl) rfl rfl rfl rfl (show sk_ix 5 5 6 from ⟨by decide, by decide, by decide⟩).vp ?_
  show cn_S _ _ _ _ _ 6 248 _ 91 [some (.ref a), some (.int 5)] [] (cw _ _ [_, _, (q21_2, .inl (T 1, 6, .inr (.inr (.inr (.inr (va_up (va_up (va_up (va_up (va_up (va_up (fun _ => none) 0 (some q83_6)) 1 (some q83_8)) 2 (some q83_10)) 3 (some q83_12)) 4 (some q83_14)) 5 (some q83_16))))))), _, _, _, _, _, _, _, _, _]) _
  refine cn_S.iinc (i := 1) (v := 6) (dd DX2_init 48 rfl) rfl (by decide) rfl ?_
  show cn_S _ _ _ _ _ 6 248 _ 94 [some (.ref a), some (.int 6)] [] _ _
  refine cn_S.goto (tgt := 72) (dd DX2_init 49 rfl) (by decide) ?_
  refine cn_S.iload_n (i := 1) (dd DX2_init 38 rfl) rfl rfl ?_
  refine cn_S.bipush (v := 6) (dd DX2_init 39 rfl) (by decide) ?_
  refine cn_S.ge_t (tgt := 97) (dd DX2_init 40 rfl) (by decide) (by decide) ?_
  refine cn_S.iconst (v := 0) (dd DX2_init 50 rfl) (by decide) ?_
  refine cn_S.istore_n (i := 1) (dd DX2_init 51 rfl) rfl (Nat.le_of_ble_eq_true rfl) rfl ?_
  show cn_S _ _ _ _ _ 6 248 _ 99 [some (.ref a), some (.int 0)] [] _ _
  refine cn_S.iload_n (i := 1) (dd DX2_init 52 rfl) rfl rfl ?_
  refine cn_S.iconst (v := 2) (dd DX2_init 53 rfl) (by decide) ?_
  refine cn_S.ge_f (tgt := 123) (dd DX2_init 54 rfl) (by decide) (by decide) ?_
  refine cn_S.aload_n (i := 0) (dd DX2_init 55 rfl) rfl rfl ?_
  refine cn_S.get (dd DX2_init 56 rfl) rfl fX2_26 hk rfl ?_
  refine cn_S.iload_n (i := 1) (dd DX2_init 57 rfl) rfl rfl ?_
  refine cn_S.new (own := RX2) (c := 5) (n := 244) (dd DX2_init 58 rfl) rfl nwX2_24 (fun q109_18 => ?_)
  show cn_S _ _ _ _ _ 5 244 _ 112 [some (.ref a), some (.int 0)] [.ref q109_18, .int 0, .ref q29_3] (cw _ _ [_, _, _, _, _, _, _, _, _, _, _, _, _]) _
  refine cn_S.dup (dd DX2_init 59 rfl) ?_
  refine cn_S.init (c := 3) (n := 124) (y := 12) (dd DX2_init 60 rfl) rfl ciX2_50 con_X1 rfl rfl (Nat.le_of_ble_eq_true rfl) (fun f1 t1 hq => ?_)
  obtain ⟨q7_0_113_19, q15_1_113_19, rfl, rfl⟩ := hq
  show cn_S _ _ _ _ _ 3 124 _ 116 [some (.ref a), some (.int 0)] [.ref q109_18, .int 0, .ref q29_3] (cw _ _ [_, _, _, _, _, _, _, _, _, _, _, _, (q109_18, .inr (1, [.ref q7_0_113_19, .ref q15_1_113_19, .int 0, .int 0])), _, _]) _
  refine cn_S.aast (t := 2) (x := 3) (y := 12) (dd DX2_init 61 rfl) rfl rfl rfl rfl (show sk_ix 0 0 2 from ⟨by decide, by decide, by decide⟩).vp ?_
  show cn_S _ _ _ _ _ 3 124 _ 117 [some (.ref a), some (.int 0)] [] (cw _ _ [_, _, _, (q29_3, .inl (T 2, 2, .inr (.inr (.inr (.inr (va_up (fun _ => none) 0 (some q109_18))))))), _, _, _, _, _, _, _, _, _, _, _]) _
  refine cn_S.iinc (i := 1) (v := 1) (dd DX2_init 62 rfl) rfl (by decide) rfl ?_
  show cn_S _ _ _ _ _ 3 124 _ 120 [some (.ref a), some (.int 1)] [] _ _
  refine cn_S.goto (tgt := 99) (dd DX2_init 63 rfl) (by decide) ?_
  refine cn_S.iload_n (i := 1) (dd DX2_init 52 rfl) rfl rfl ?_
  refine cn_S.iconst (v := 2) (dd DX2_init 53 rfl) (by decide) ?_
  refine cn_S.ge_f (tgt := 123) (dd DX2_init 54 rfl) (by decide) (by decide) ?_
  refine cn_S.aload_n (i := 0) (dd DX2_init 55 rfl) rfl rfl ?_
  refine cn_S.get (dd DX2_init 56 rfl) rfl fX2_26 hk rfl ?_
  refine cn_S.iload_n (i := 1) (dd DX2_init 57 rfl) rfl rfl ?_
  refine cn_S.new (own := RX2) (c := 2) (n := 120) (dd DX2_init 58 rfl) rfl nwX2_24 (fun q109_20 => ?_)
  show cn_S _ _ _ _ _ 2 120 _ 112 [some (.ref a), some (.int 1)] [.ref q109_20, .int 1, .ref q29_3] (cw _ _ [_, _, _, _, _, _, _, _, _, _, _, _, _, _, _, _]) _
  refine cn_S.dup (dd DX2_init 59 rfl) ?_
  refine cn_S.init (c := 0) (n := 0) (y := 15) (dd DX2_init 60 rfl) rfl ciX2_50 con_X1 rfl rfl (Nat.le_of_ble_eq_true rfl) (fun f1 t1 hq => ?_)
  obtain ⟨q7_0_113_21, q15_1_113_21, rfl, rfl⟩ := hq
  show cn_S _ _ _ _ _ 0 0 _ 116 [some (.ref a), some (.int 1)] [.ref q109_20, .int 1, .ref q29_3] (cw _ _ [_, _, _, _, _, _, _, _, _, _, _, _, _, _, _, (q109_20, .inr (1, [.ref q7_0_113_21, .ref q15_1_113_21, .int 0, .int 0])), _, _]) _
  refine cn_S.aast (t := 2) (x := 3) (y := 15) (dd DX2_init 61 rfl) rfl rfl rfl rfl (show sk_ix 1 1 2 from ⟨by decide, by decide, by decide⟩).vp ?_
  show cn_S _ _ _ _ _ 0 0 _ 117 [some (.ref a), some (.int 1)] [] (cw _ _ [_, _, _, (q29_3, .inl (T 2, 2, .inr (.inr (.inr (.inr (va_up (va_up (fun _ => none) 0 (some q109_18)) 1 (some q109_20))))))), _, _, _, _, _, _, _, _, _, _, _, _, _, _]) _
  refine cn_S.iinc (i := 1) (v := 2) (dd DX2_init 62 rfl) rfl (by decide) rfl ?_
  show cn_S _ _ _ _ _ 0 0 _ 120 [some (.ref a), some (.int 2)] [] _ _
  refine cn_S.goto (tgt := 99) (dd DX2_init 63 rfl) (by decide) ?_
  refine cn_S.iload_n (i := 1) (dd DX2_init 52 rfl) rfl rfl ?_
  refine cn_S.iconst (v := 2) (dd DX2_init 53 rfl) (by decide) ?_
  refine cn_S.ge_t (tgt := 123) (dd DX2_init 54 rfl) (by decide) (by decide) ?_
  exact cn_S.ret ⟨⟨_, _, ⟨q6_0, q13_1, q21_2, q29_3, q38_4, q46_5, q83_6, q83_8, q83_10, q83_12, q83_14, q83_16, q109_18, q7_0_113_19, q15_1_113_19, q109_20, q7_0_113_21, q15_1_113_21, rfl, rfl⟩, rfl⟩, (dd DX2_init 64 rfl)⟩
theorem ol_X7 : Cond.methodLink RX7 3 objectInit ∈ gg_W := gg_at 105 (by decide +kernel)
theorem nwX7_9 : cn_nw RX7 9 2 15 [.null, .null, .null, .null, .null, .null, .int 0, .int 0, .int 0, .int 0, .int 0, .int 0, .int 0, .int 0, .int 0] := ⟨RX2, TX2, tyX2, rfl, uX2, tyX2_ok, gg_at 108 (by decide +kernel), gg_at 109 (by decide +kernel), gg_at 84 (by decide +kernel), fun j hj => by
  rcases (by omega : j = 0 ∨ j = 1 ∨ j = 2 ∨ j = 3 ∨ j = 4 ∨ j = 5 ∨ j = 6 ∨ j = 7 ∨ j = 8 ∨ j = 9 ∨ j = 10 ∨ j = 11 ∨ j = 12 ∨ j = 13 ∨ j = 14) with rfl | rfl | rfl | rfl | rfl | rfl | rfl | rfl | rfl | rfl | rfl | rfl | rfl | rfl | rfl <;> rfl⟩
theorem ciX7_11 : cn_ci RX7 11 MX2_init := ⟨aX2_init, gg_at 84 (by decide +kernel), ⟨by decide, by decide, by decide +kernel⟩, by decide, rfl, rfl, gg_at 111 (by decide +kernel), Or.inr ⟨"PromisedFish", nn_at 28 (by decide +kernel)⟩⟩
theorem ffX7_12 : cn_ff RX7 12 6 0 (tyX7 0) := ⟨RX7, TX7, 7, tyX7, rfl, uX7, by decide, gg_at 305 (by decide +kernel), tyX7_ok, nmX7, rfl, rfl, tyX7_ok 0 (by decide)⟩
theorem ffX7_16 : cn_ff RX7 16 6 1 (tyX7 1) := ⟨RX7, TX7, 7, tyX7, rfl, uX7, by decide, gg_at 306 (by decide +kernel), tyX7_ok, nmX7, rfl, rfl, tyX7_ok 1 (by decide)⟩
theorem nwX7_19 : cn_nw RX7 19 3 6 [.null, .int 0, .null, .int 0, .int 0, .int 0] := ⟨RX3, TX3, tyX3, rfl, uX3, tyX3_ok, gg_at 228 (by decide +kernel), gg_at 229 (by decide +kernel), gg_at 88 (by decide +kernel), fun j hj => by
  rcases (by omega : j = 0 ∨ j = 1 ∨ j = 2 ∨ j = 3 ∨ j = 4 ∨ j = 5) with rfl | rfl | rfl | rfl | rfl | rfl <;> rfl⟩
theorem ciX7_21 : cn_ci RX7 21 MX3_init := ⟨aX3_init, gg_at 88 (by decide +kernel), ⟨by decide, by decide, by decide +kernel⟩, by decide, rfl, rfl, gg_at 231 (by decide +kernel), Or.inr ⟨"PromisedFish", nn_at 148 (by decide +kernel)⟩⟩
theorem ffX7_22 : cn_ff RX7 22 6 2 (tyX7 2) := ⟨RX7, TX7, 7, tyX7, rfl, uX7, by decide, gg_at 307 (by decide +kernel), tyX7_ok, nmX7, rfl, rfl, tyX7_ok 2 (by decide)⟩
theorem nwX7_26 : cn_nw RX7 26 5 6 [.null, .int 0, .int 0, .int 0, .int 0, .int 0] := ⟨RX6, TX6, tyX6, rfl, uX6, tyX6_ok, gg_at 255 (by decide +kernel), gg_at 256 (by decide +kernel), gg_at 89 (by decide +kernel), fun j hj => by
  rcases (by omega : j = 0 ∨ j = 1 ∨ j = 2 ∨ j = 3 ∨ j = 4 ∨ j = 5) with rfl | rfl | rfl | rfl | rfl | rfl <;> rfl⟩
theorem ciX7_28 : cn_ci RX7 28 MX6_init := ⟨aX6_init, gg_at 89 (by decide +kernel), ⟨by decide, by decide, by decide +kernel⟩, by decide, rfl, rfl, gg_at 258 (by decide +kernel), Or.inr ⟨"PromisedFish", nn_at 175 (by decide +kernel)⟩⟩
theorem ffX7_29 : cn_ff RX7 29 6 3 (tyX7 3) := ⟨RX7, TX7, 7, tyX7, rfl, uX7, by decide, gg_at 308 (by decide +kernel), tyX7_ok, nmX7, rfl, rfl, tyX7_ok 3 (by decide)⟩
theorem ffX7_35 : cn_ff RX7 35 6 4 (tyX7 4) := ⟨RX7, TX7, 7, tyX7, rfl, uX7, by decide, gg_at 309 (by decide +kernel), tyX7_ok, nmX7, rfl, rfl, tyX7_ok 4 (by decide)⟩
theorem ffX7_39 : cn_ff RX7 39 6 5 (tyX7 5) := ⟨RX7, TX7, 7, tyX7, rfl, uX7, by decide, gg_at 310 (by decide +kernel), tyX7_ok, nmX7, rfl, rfl, tyX7_ok 5 (by decide)⟩
theorem nwX7_33 : cn_nw RX7 33 4 3 [.null, .int 0, .int 0] := ⟨RX4, TX4, tyX4, rfl, uX4, tyX4_ok, gg_at 283 (by decide +kernel), gg_at 285 (by decide +kernel), gg_at 90 (by decide +kernel), fun j hj => by
  rcases (by omega : j = 0 ∨ j = 1 ∨ j = 2) with rfl | rfl | rfl <;> rfl⟩
theorem ciX7_43 : cn_ci RX7 43 MX4_init := ⟨aX4_init, gg_at 90 (by decide +kernel), ⟨by decide, by decide, by decide +kernel⟩, by decide, rfl, rfl, gg_at 287 (by decide +kernel), Or.inr ⟨"PromisedFish", nn_at 204 (by decide +kernel)⟩⟩
set_option maxRecDepth 100000 in
set_option maxHeartbeats 4000000 in
theorem con_X7 {l : Launch} {G : va_G} {T : Nat → ClassId} {S0 d : Nat} : cn_K l G T S0 (d + 3) 53 1043 MX7_init 6 [.null, .null, .null, .null, .null, .null, .int 0] (fun a fs tl => ∃ q5_0 q6_0_9_1 q13_1_9_1 q21_2_9_1 q29_3_9_1 q38_4_9_1 q46_5_9_1 q83_6_9_1 q83_8_9_1 q83_10_9_1 q83_12_9_1 q83_14_9_1 q83_16_9_1 q109_18_9_1 q7_0_113_19_9_1 q15_1_113_19_9_1 q109_20_9_1 q7_0_113_21_9_1 q15_1_113_21_9_1 q16_2 q6_0_20_3 q13_1_20_3 q21_2_20_3 q29_3_20_3 q38_4_20_3 q46_5_20_3 q83_6_20_3 q83_8_20_3 q83_10_20_3 q83_12_20_3 q83_14_20_3 q83_16_20_3 q109_18_20_3 q7_0_113_19_20_3 q15_1_113_19_20_3 q109_20_20_3 q7_0_113_21_20_3 q15_1_113_21_20_3 q27_4 q7_0_31_5 q15_1_31_5 q38_6 q7_0_42_7 q50_8 q59_9 q76_10 q7_0_80_11 q76_12 q7_0_80_13 q76_14 q7_0_80_15 q76_16 q7_0_80_17, fs = [.ref q5_0, .ref q16_2, .ref q27_4, .ref q38_6, .ref q50_8, .ref q59_9, .int 0] ∧ tl = [(q5_0, .inr (2, [.ref q6_0_9_1, .ref q13_1_9_1, .ref q21_2_9_1, .ref q29_3_9_1, .ref q38_4_9_1, .ref q46_5_9_1, .int 0, .int 0, .int 0, .int 0, .int 0, .int 20, .int 0, .int 0, .int 1])), (q6_0_9_1, .inl (T 0, 4, .inl (fun _ => 0))), (q13_1_9_1, .inl (T 0, 4, .inl (upd (upd (upd (upd (fun _ => 0) 0 2) 1 2) 2 2) 3 2))), (q21_2_9_1, .inl (T 1, 6, .inr (.inr (.inr (.inr (va_up (va_up (va_up (va_up (va_up (va_up (fun _ => none) 0 (some q83_6_9_1)) 1 (some q83_8_9_1)) 2 (some q83_10_9_1)) 3 (some q83_12_9_1)) 4 (some q83_14_9_1)) 5 (some q83_16_9_1))))))), (q29_3_9_1, .inl (T 2, 2, .inr (.inr (.inr (.inr (va_up (va_up (fun _ => none) 0 (some q109_18_9_1)) 1 (some q109_20_9_1))))))), (q38_4_9_1, .inl (T 0, 60, .inl (fun _ => 0))), (q46_5_9_1, .inl (T 0, 24, .inl (fun _ => 0))), (q83_6_9_1, .inr (0, [.int 0, .int 0, .int 0])), (q83_8_9_1, .inr (0, [.int 0, .int 0, .int 0])), (q83_10_9_1, .inr (0, [.int 0, .int 0, .int 0])), (q83_12_9_1, .inr (0, [.int 0, .int 0, .int 0])), (q83_14_9_1, .inr (0, [.int 0, .int 0, .int 0])), (q83_16_9_1, .inr (0, [.int 0, .int 0, .int 0])), (q109_18_9_1, .inr (1, [.ref q7_0_113_19_9_1, .ref q15_1_113_19_9_1, .int 0, .int 0])), (q7_0_113_19_9_1, .inl (T 0, 60, .inl (fun _ => 0))), (q15_1_113_19_9_1, .inl (T 0, 60, .inl (fun _ => 0))), (q109_20_9_1, .inr (1, [.ref q7_0_113_21_9_1, .ref q15_1_113_21_9_1, .int 0, .int 0])), (q7_0_113_21_9_1, .inl (T 0, 60, .inl (fun _ => 0))), (q15_1_113_21_9_1, .inl (T 0, 60, .inl (fun _ => 0))), (q16_2, .inr (2, [.ref q6_0_20_3, .ref q13_1_20_3, .ref q21_2_20_3, .ref q29_3_20_3, .ref q38_4_20_3, .ref q46_5_20_3, .int 0, .int 0, .int 0, .int 0, .int 0, .int 20, .int 0, .int 0, .int 1])), (q6_0_20_3, .inl (T 0, 4, .inl (fun _ => 0))), (q13_1_20_3, .inl (T 0, 4, .inl (upd (upd (upd (upd (fun _ => 0) 0 2) 1 2) 2 2) 3 2))), (q21_2_20_3, .inl (T 1, 6, .inr (.inr (.inr (.inr (va_up (va_up (va_up (va_up (va_up (va_up (fun _ => none) 0 (some q83_6_20_3)) 1 (some q83_8_20_3)) 2 (some q83_10_20_3)) 3 (some q83_12_20_3)) 4 (some q83_14_20_3)) 5 (some q83_16_20_3))))))), (q29_3_20_3, .inl (T 2, 2, .inr (.inr (.inr (.inr (va_up (va_up (fun _ => none) 0 (some q109_18_20_3)) 1 (some q109_20_20_3))))))), (q38_4_20_3, .inl (T 0, 60, .inl (fun _ => 0))), (q46_5_20_3, .inl (T 0, 24, .inl (fun _ => 0))), (q83_6_20_3, .inr (0, [.int 0, .int 0, .int 0])), (q83_8_20_3, .inr (0, [.int 0, .int 0, .int 0])), (q83_10_20_3, .inr (0, [.int 0, .int 0, .int 0])), (q83_12_20_3, .inr (0, [.int 0, .int 0, .int 0])), (q83_14_20_3, .inr (0, [.int 0, .int 0, .int 0])), (q83_16_20_3, .inr (0, [.int 0, .int 0, .int 0])), (q109_18_20_3, .inr (1, [.ref q7_0_113_19_20_3, .ref q15_1_113_19_20_3, .int 0, .int 0])), (q7_0_113_19_20_3, .inl (T 0, 60, .inl (fun _ => 0))), (q15_1_113_19_20_3, .inl (T 0, 60, .inl (fun _ => 0))), (q109_20_20_3, .inr (1, [.ref q7_0_113_21_20_3, .ref q15_1_113_21_20_3, .int 0, .int 0])), (q7_0_113_21_20_3, .inl (T 0, 60, .inl (fun _ => 0))), (q15_1_113_21_20_3, .inl (T 0, 60, .inl (fun _ => 0))), (q27_4, .inr (3, [.ref q7_0_31_5, .int 0, .ref q15_1_31_5, .int 0, .int 0, .int 0])), (q7_0_31_5, .inl (T 0, 60, .inl (fun _ => 0))), (q15_1_31_5, .inl (T 0, 60, .inl (fun _ => 0))), (q38_6, .inr (5, [.ref q7_0_42_7, .int 0, .int 0, .int 0, .int 0, .int 0])), (q7_0_42_7, .inl (T 0, 30, .inl (fun _ => 0))), (q50_8, .inl (T 3, 4, .inr (.inr (.inr (.inr (va_up (va_up (va_up (va_up (fun _ => none) 0 (some q76_10)) 1 (some q76_12)) 2 (some q76_14)) 3 (some q76_16))))))), (q59_9, .inl (T 0, 7, .inl (fun _ => 0))), (q76_10, .inr (4, [.ref q7_0_80_11, .int 0, .int 0])), (q7_0_80_11, .inl (T 0, 24, .inl (fun _ => 0))), (q76_12, .inr (4, [.ref q7_0_80_13, .int 0, .int 0])), (q7_0_80_13, .inl (T 0, 24, .inl (fun _ => 0))), (q76_14, .inr (4, [.ref q7_0_80_15, .int 0, .int 0])), (q7_0_80_15, .inl (T 0, 24, .inl (fun _ => 0))), (q76_16, .inr (4, [.ref q7_0_80_17, .int 0, .int 0])), (q7_0_80_17, .inl (T 0, 24, .inl (fun _ => 0)))]) := by
  intro ws0 k a hk
  refine cn_M.of (by decide +kernel) rfl (by intro v hv; simp at hv; subst hv; rfl) (Nat.le_of_ble_eq_true rfl) ?_
  show cn_S l G T S0 (d + 3) 53 1043 _ 0 [some (.ref a), none] [] (cw (ws0, k, a, 6) [.null, .null, .null, .null, .null, .null, .int 0] []) _
  refine cn_S.aload_n (i := 0) (dd DX7_init 0 rfl) rfl rfl ?_
  refine cn_S.obj (dd DX7_init 1 rfl) rfl ol_X7 rfl (Nat.le_of_ble_eq_true rfl) ?_
  show cn_S _ _ _ _ _ 53 1043 _ 4 [some (.ref a), none] [] _ _
  refine cn_S.aload_n (i := 0) (dd DX7_init 2 rfl) rfl rfl ?_
  refine cn_S.new (own := RX7) (c := 52) (n := 1028) (dd DX7_init 3 rfl) rfl nwX7_9 (fun q5_0 => ?_)
  show cn_S _ _ _ _ _ 52 1028 _ 8 [some (.ref a), none] [.ref q5_0, .ref a] (cw _ _ [_]) _
  refine cn_S.dup (dd DX7_init 4 rfl) ?_
  refine cn_S.init (c := 34) (n := 662) (y := 0) (dd DX7_init 5 rfl) rfl ciX7_11 con_X2 rfl rfl (Nat.le_of_ble_eq_true rfl) (fun f1 t1 hq => ?_)
  obtain ⟨q6_0_9_1, q13_1_9_1, q21_2_9_1, q29_3_9_1, q38_4_9_1, q46_5_9_1, q83_6_9_1, q83_8_9_1, q83_10_9_1, q83_12_9_1, q83_14_9_1, q83_16_9_1, q109_18_9_1, q7_0_113_19_9_1, q15_1_113_19_9_1, q109_20_9_1, q7_0_113_21_9_1, q15_1_113_21_9_1, rfl, rfl⟩ := hq
  show cn_S _ _ _ _ _ 34 662 _ 12 [some (.ref a), none] [.ref q5_0, .ref a] (cw _ _ [(q5_0, .inr (2, [.ref q6_0_9_1, .ref q13_1_9_1, .ref q21_2_9_1, .ref q29_3_9_1, .ref q38_4_9_1, .ref q46_5_9_1, .int 0, .int 0, .int 0, .int 0, .int 0, .int 20, .int 0, .int 0, .int 1])), _, _, _, _, _, _, _, _, _, _, _, _, _, _, _, _, _, _]) _
  refine cn_S.putF (dd DX7_init 6 rfl) rfl rfl ffX7_12 hk rfl rfl (Nat.le_of_ble_eq_true rfl) ?_
  show cn_S _ _ _ _ _ 34 662 _ 15 [some (.ref a), none] [] (cw _ [.ref q5_0, _, _, _, _, _, _] [_, _, _, _, _, _, _, _, _, _, _, _, _, _, _, _, _, _, _]) _
  refine cn_S.aload_n (i := 0) (dd DX7_init 7 rfl) rfl rfl ?_
  refine cn_S.new (own := RX7) (c := 33) (n := 647) (dd DX7_init 8 rfl) rfl nwX7_9 (fun q16_2 => ?_)
  show cn_S _ _ _ _ _ 33 647 _ 19 [some (.ref a), none] [.ref q16_2, .ref a] (cw _ _ [_, _, _, _, _, _, _, _, _, _, _, _, _, _, _, _, _, _, _, _]) _
  refine cn_S.dup (dd DX7_init 9 rfl) ?_
  refine cn_S.init (c := 15) (n := 281) (y := 19) (dd DX7_init 10 rfl) rfl ciX7_11 con_X2 rfl rfl (Nat.le_of_ble_eq_true rfl) (fun f1 t1 hq => ?_)
  obtain ⟨q6_0_20_3, q13_1_20_3, q21_2_20_3, q29_3_20_3, q38_4_20_3, q46_5_20_3, q83_6_20_3, q83_8_20_3, q83_10_20_3, q83_12_20_3, q83_14_20_3, q83_16_20_3, q109_18_20_3, q7_0_113_19_20_3, q15_1_113_19_20_3, q109_20_20_3, q7_0_113_21_20_3, q15_1_113_21_20_3, rfl, rfl⟩ := hq
  show cn_S _ _ _ _ _ 15 281 _ 23 [some (.ref a), none] [.ref q16_2, .ref a] (cw _ _ [_, _, _, _, _, _, _, _, _, _, _, _, _, _, _, _, _, _, _, (q16_2, .inr (2, [.ref q6_0_20_3, .ref q13_1_20_3, .ref q21_2_20_3, .ref q29_3_20_3, .ref q38_4_20_3, .ref q46_5_20_3, .int 0, .int 0, .int 0, .int 0, .int 0, .int 20, .int 0, .int 0, .int 1])), _, _, _, _, _, _, _, _, _, _, _, _, _, _, _, _, _, _]) _
  refine cn_S.putF (dd DX7_init 11 rfl) rfl rfl ffX7_16 hk rfl rfl (Nat.le_of_ble_eq_true rfl) ?_
  show cn_S _ _ _ _ _ 15 281 _ 26 [some (.ref a), none] [] (cw _ [_, .ref q16_2, _, _, _, _, _] [_, _, _, _, _, _, _, _, _, _, _, _, _, _, _, _, _, _, _, _, _, _, _, _, _, _, _, _, _, _, _, _, _, _, _, _, _, _]) _
  refine cn_S.aload_n (i := 0) (dd DX7_init 12 rfl) rfl rfl ?_
  refine cn_S.new (own := RX7) (c := 14) (n := 275) (dd DX7_init 13 rfl) rfl nwX7_19 (fun q27_4 => ?_)
  show cn_S _ _ _ _ _ 14 275 _ 30 [some (.ref a), none] [.ref q27_4, .ref a] (cw _ _ [_, _, _, _, _, _, _, _, _, _, _, _, _, _, _, _, _, _, _, _, _, _, _, _, _, _, _, _, _, _, _, _, _, _, _, _, _, _, _]) _
  refine cn_S.dup (dd DX7_init 14 rfl) ?_
  refine cn_S.init (c := 12) (n := 155) (y := 38) (dd DX7_init 15 rfl) rfl ciX7_21 con_X3 rfl rfl (Nat.le_of_ble_eq_true rfl) (fun f1 t1 hq => ?_)
  obtain ⟨q7_0_31_5, q15_1_31_5, rfl, rfl⟩ := hq
  show cn_S _ _ _ _ _ 12 155 _ 34 [some (.ref a), none] [.ref q27_4, .ref a] (cw _ _ [_, _, _, _, _, _, _, _, _, _, _, _, _, _, _, _, _, _, _, _, _, _, _, _, _, _, _, _, _, _, _, _, _, _, _, _, _, _, (q27_4, .inr (3, [.ref q7_0_31_5, .int 0, .ref q15_1_31_5, .int 0, .int 0, .int 0])), _, _]) _
  refine cn_S.putF (dd DX7_init 16 rfl) rfl rfl ffX7_22 hk rfl rfl (Nat.le_of_ble_eq_true rfl) ?_
  show cn_S _ _ _ _ _ 12 155 _ 37 [some (.ref a), none] [] (cw _ [_, _, .ref q27_4, _, _, _, _] [_, _, _, _, _, _, _, _, _, _, _, _, _, _, _, _, _, _, _, _, _, _, _, _, _, _, _, _, _, _, _, _, _, _, _, _, _, _, _, _, _]) _
  refine cn_S.aload_n (i := 0) (dd DX7_init 17 rfl) rfl rfl ?_
  refine cn_S.new (own := RX7) (c := 11) (n := 149) (dd DX7_init 18 rfl) rfl nwX7_26 (fun q38_6 => ?_)
  show cn_S _ _ _ _ _ 11 149 _ 41 [some (.ref a), none] [.ref q38_6, .ref a] (cw _ _ [_, _, _, _, _, _, _, _, _, _, _, _, _, _, _, _, _, _, _, _, _, _, _, _, _, _, _, _, _, _, _, _, _, _, _, _, _, _, _, _, _, _]) _
  refine cn_S.dup (dd DX7_init 19 rfl) ?_
  refine cn_S.init (c := 10) (n := 119) (y := 41) (dd DX7_init 20 rfl) rfl ciX7_28 con_X6 rfl rfl (Nat.le_of_ble_eq_true rfl) (fun f1 t1 hq => ?_)
  obtain ⟨q7_0_42_7, rfl, rfl⟩ := hq
  show cn_S _ _ _ _ _ 10 119 _ 45 [some (.ref a), none] [.ref q38_6, .ref a] (cw _ _ [_, _, _, _, _, _, _, _, _, _, _, _, _, _, _, _, _, _, _, _, _, _, _, _, _, _, _, _, _, _, _, _, _, _, _, _, _, _, _, _, _, (q38_6, .inr (5, [.ref q7_0_42_7, .int 0, .int 0, .int 0, .int 0, .int 0])), _]) _
  refine cn_S.putF (dd DX7_init 21 rfl) rfl rfl ffX7_29 hk rfl rfl (Nat.le_of_ble_eq_true rfl) ?_
  show cn_S _ _ _ _ _ 10 119 _ 48 [some (.ref a), none] [] (cw _ [_, _, _, .ref q38_6, _, _, _] [_, _, _, _, _, _, _, _, _, _, _, _, _, _, _, _, _, _, _, _, _, _, _, _, _, _, _, _, _, _, _, _, _, _, _, _, _, _, _, _, _, _, _]) _
  refine cn_S.aload_n (i := 0) (dd DX7_init 22 rfl) rfl rfl ?_
  refine cn_S.iconst (v := 4) (dd DX7_init 23 rfl) (by decide) ?_
  refine cn_S.newq (c := 9) (n := 115) (N := 4) (t := 3) (dd DX7_init 24 rfl) rfl (gg_at 283 (by decide +kernel)) rfl (by decide) (by decide) (by decide) (by decide) (fun q50_8 => ?_)
  show cn_S _ _ _ _ _ 9 115 _ 53 [some (.ref a), none] [.ref q50_8, .ref a] (cw _ _ [_, _, _, _, _, _, _, _, _, _, _, _, _, _, _, _, _, _, _, _, _, _, _, _, _, _, _, _, _, _, _, _, _, _, _, _, _, _, _, _, _, _, _, _]) _
  refine cn_S.putF (dd DX7_init 25 rfl) rfl rfl ffX7_35 hk rfl rfl (Nat.le_of_ble_eq_true rfl) ?_
  show cn_S _ _ _ _ _ 9 115 _ 56 [some (.ref a), none] [] (cw _ [_, _, _, _, .ref q50_8, _, _] [_, _, _, _, _, _, _, _, _, _, _, _, _, _, _, _, _, _, _, _, _, _, _, _, _, _, _, _, _, _, _, _, _, _, _, _, _, _, _, _, _, _, _, _]) _
  refine cn_S.aload_n (i := 0) (dd DX7_init 26 rfl) rfl rfl ?_
  refine cn_S.bipush (v := 7) (dd DX7_init 27 rfl) (by decide) ?_
  refine cn_S.newa (c := 8) (n := 108) (N := 7) (dd DX7_init 28 rfl) (by decide) (by decide) (by decide) (fun q59_9 => ?_)
  show cn_S _ _ _ _ _ 8 108 _ 61 [some (.ref a), none] [.ref q59_9, .ref a] (cw _ _ [_, _, _, _, _, _, _, _, _, _, _, _, _, _, _, _, _, _, _, _, _, _, _, _, _, _, _, _, _, _, _, _, _, _, _, _, _, _, _, _, _, _, _, _, _]) _
  refine cn_S.putF (dd DX7_init 29 rfl) rfl rfl ffX7_39 hk rfl rfl (Nat.le_of_ble_eq_true rfl) ?_
  show cn_S _ _ _ _ _ 8 108 _ 64 [some (.ref a), none] [] (cw _ [_, _, _, _, _, .ref q59_9, _] [_, _, _, _, _, _, _, _, _, _, _, _, _, _, _, _, _, _, _, _, _, _, _, _, _, _, _, _, _, _, _, _, _, _, _, _, _, _, _, _, _, _, _, _, _]) _
  refine cn_S.iconst (v := 0) (dd DX7_init 30 rfl) (by decide) ?_
  refine cn_S.istore_n (i := 1) (dd DX7_init 31 rfl) rfl (Nat.le_of_ble_eq_true rfl) rfl ?_
  show cn_S _ _ _ _ _ 8 108 _ 66 [some (.ref a), some (.int 0)] [] _ _
  refine cn_S.iload_n (i := 1) (dd DX7_init 32 rfl) rfl rfl ?_
  refine cn_S.iconst (v := 4) (dd DX7_init 33 rfl) (by decide) ?_
  refine cn_S.ge_f (tgt := 90) (dd DX7_init 34 rfl) (by decide) (by decide) ?_
  refine cn_S.aload_n (i := 0) (dd DX7_init 35 rfl) rfl rfl ?_
  refine cn_S.get (dd DX7_init 36 rfl) rfl fX7_35 hk rfl ?_
  refine cn_S.iload_n (i := 1) (dd DX7_init 37 rfl) rfl rfl ?_
  refine cn_S.new (own := RX7) (c := 7) (n := 105) (dd DX7_init 38 rfl) rfl nwX7_33 (fun q76_10 => ?_)
  show cn_S _ _ _ _ _ 7 105 _ 79 [some (.ref a), some (.int 0)] [.ref q76_10, .int 0, .ref q50_8] (cw _ _ [_, _, _, _, _, _, _, _, _, _, _, _, _, _, _, _, _, _, _, _, _, _, _, _, _, _, _, _, _, _, _, _, _, _, _, _, _, _, _, _, _, _, _, _, _, _]) _
  refine cn_S.dup (dd DX7_init 39 rfl) ?_
  refine cn_S.init (c := 6) (n := 81) (y := 45) (dd DX7_init 40 rfl) rfl ciX7_43 con_X4 rfl rfl (Nat.le_of_ble_eq_true rfl) (fun f1 t1 hq => ?_)
  obtain ⟨q7_0_80_11, rfl, rfl⟩ := hq
  show cn_S _ _ _ _ _ 6 81 _ 83 [some (.ref a), some (.int 0)] [.ref q76_10, .int 0, .ref q50_8] (cw _ _ [_, _, _, _, _, _, _, _, _, _, _, _, _, _, _, _, _, _, _, _, _, _, _, _, _, _, _, _, _, _, _, _, _, _, _, _, _, _, _, _, _, _, _, _, _, (q76_10, .inr (4, [.ref q7_0_80_11, .int 0, .int 0])), _]) _
  refine cn_S.aast (t := 3) (x := 43) (y := 45) (dd DX7_init 41 rfl) rfl rfl rfl rfl (show sk_ix 0 0 4 from ⟨by decide, by decide, by decide⟩).vp ?_
  show cn_S _ _ _ _ _ 6 81 _ 84 [some (.ref a), some (.int 0)] [] (cw _ _ [_, _, _, _, _, _, _, _, _, _, _, _, _, _, _, _, _, _, _, _, _, _, _, _, _, _, _, _, _, _, _, _, _, _, _, _, _, _, _, _, _, _, _, (q50_8, .inl (T 3, 4, .inr (.inr (.inr (.inr (va_up (fun _ => none) 0 (some q76_10))))))), _, _, _]) _
  refine cn_S.iinc (i := 1) (v := 1) (dd DX7_init 42 rfl) rfl (by decide) rfl ?_
  show cn_S _ _ _ _ _ 6 81 _ 87 [some (.ref a), some (.int 1)] [] _ _
  refine cn_S.goto (tgt := 66) (dd DX7_init 43 rfl) (by decide) ?_
  refine cn_S.iload_n (i := 1) (dd DX7_init 32 rfl) rfl rfl ?_
  refine cn_S.iconst (v := 4) (dd DX7_init 33 rfl) (by decide) ?_
  refine cn_S.ge_f (tgt := 90) (dd DX7_init 34 rfl) (by decide) (by decide) ?_
  refine cn_S.aload_n (i := 0) (dd DX7_init 35 rfl) rfl rfl ?_
  refine cn_S.get (dd DX7_init 36 rfl) rfl fX7_35 hk rfl ?_
  refine cn_S.iload_n (i := 1) (dd DX7_init 37 rfl) rfl rfl ?_
  refine cn_S.new (own := RX7) (c := 5) (n := 78) (dd DX7_init 38 rfl) rfl nwX7_33 (fun q76_12 => ?_)
  show cn_S _ _ _ _ _ 5 78 _ 79 [some (.ref a), some (.int 1)] [.ref q76_12, .int 1, .ref q50_8] (cw _ _ [_, _, _, _, _, _, _, _, _, _, _, _, _, _, _, _, _, _, _, _, _, _, _, _, _, _, _, _, _, _, _, _, _, _, _, _, _, _, _, _, _, _, _, _, _, _, _, _]) _
  refine cn_S.dup (dd DX7_init 39 rfl) ?_
  refine cn_S.init (c := 4) (n := 54) (y := 47) (dd DX7_init 40 rfl) rfl ciX7_43 con_X4 rfl rfl (Nat.le_of_ble_eq_true rfl) (fun f1 t1 hq => ?_)
  obtain ⟨q7_0_80_13, rfl, rfl⟩ := hq
  show cn_S _ _ _ _ _ 4 54 _ 83 [some (.ref a), some (.int 1)] [.ref q76_12, .int 1, .ref q50_8] (cw _ _ [_, _, _, _, _, _, _, _, _, _, _, _, _, _, _, _, _, _, _, _, _, _, _, _, _, _, _, _, _, _, _, _, _, _, _, _, _, _, _, _, _, _, _, _, _, _, _, (q76_12, .inr (4, [.ref q7_0_80_13, .int 0, .int 0])), _]) _
  refine cn_S.aast (t := 3) (x := 43) (y := 47) (dd DX7_init 41 rfl) rfl rfl rfl rfl (show sk_ix 1 1 4 from ⟨by decide, by decide, by decide⟩).vp ?_
  show cn_S _ _ _ _ _ 4 54 _ 84 [some (.ref a), some (.int 1)] [] (cw _ _ [_, _, _, _, _, _, _, _, _, _, _, _, _, _, _, _, _, _, _, _, _, _, _, _, _, _, _, _, _, _, _, _, _, _, _, _, _, _, _, _, _, _, _, (q50_8, .inl (T 3, 4, .inr (.inr (.inr (.inr (va_up (va_up (fun _ => none) 0 (some q76_10)) 1 (some q76_12))))))), _, _, _, _, _]) _
  refine cn_S.iinc (i := 1) (v := 2) (dd DX7_init 42 rfl) rfl (by decide) rfl ?_
  show cn_S _ _ _ _ _ 4 54 _ 87 [some (.ref a), some (.int 2)] [] _ _
  refine cn_S.goto (tgt := 66) (dd DX7_init 43 rfl) (by decide) ?_
  refine cn_S.iload_n (i := 1) (dd DX7_init 32 rfl) rfl rfl ?_
  refine cn_S.iconst (v := 4) (dd DX7_init 33 rfl) (by decide) ?_
  refine cn_S.ge_f (tgt := 90) (dd DX7_init 34 rfl) (by decide) (by decide) ?_
  refine cn_S.aload_n (i := 0) (dd DX7_init 35 rfl) rfl rfl ?_
  refine cn_S.get (dd DX7_init 36 rfl) rfl fX7_35 hk rfl ?_
  refine cn_S.iload_n (i := 1) (dd DX7_init 37 rfl) rfl rfl ?_
  refine cn_S.new (own := RX7) (c := 3) (n := 51) (dd DX7_init 38 rfl) rfl nwX7_33 (fun q76_14 => ?_)
  show cn_S _ _ _ _ _ 3 51 _ 79 [some (.ref a), some (.int 2)] [.ref q76_14, .int 2, .ref q50_8] (cw _ _ [_, _, _, _, _, _, _, _, _, _, _, _, _, _, _, _, _, _, _, _, _, _, _, _, _, _, _, _, _, _, _, _, _, _, _, _, _, _, _, _, _, _, _, _, _, _, _, _, _, _]) _
  refine cn_S.dup (dd DX7_init 39 rfl) ?_
  refine cn_S.init (c := 2) (n := 27) (y := 49) (dd DX7_init 40 rfl) rfl ciX7_43 con_X4 rfl rfl (Nat.le_of_ble_eq_true rfl) (fun f1 t1 hq => ?_)
  obtain ⟨q7_0_80_15, rfl, rfl⟩ := hq
  show cn_S _ _ _ _ _ 2 27 _ 83 [some (.ref a), some (.int 2)] [.ref q76_14, .int 2, .ref q50_8] (cw _ _ [_, _, _, _, _, _, _, _, _, _, _, _, _, _, _, _, _, _, _, _, _, _, _, _, _, _, _, _, _, _, _, _, _, _, _, _, _, _, _, _, _, _, _, _, _, _, _, _, _, (q76_14, .inr (4, [.ref q7_0_80_15, .int 0, .int 0])), _]) _
  refine cn_S.aast (t := 3) (x := 43) (y := 49) (dd DX7_init 41 rfl) rfl rfl rfl rfl (show sk_ix 2 2 4 from ⟨by decide, by decide, by decide⟩).vp ?_
  show cn_S _ _ _ _ _ 2 27 _ 84 [some (.ref a), some (.int 2)] [] (cw _ _ [_, _, _, _, _, _, _, _, _, _, _, _, _, _, _, _, _, _, _, _, _, _, _, _, _, _, _, _, _, _, _, _, _, _, _, _, _, _, _, _, _, _, _, (q50_8, .inl (T 3, 4, .inr (.inr (.inr (.inr (va_up (va_up (va_up (fun _ => none) 0 (some q76_10)) 1 (some q76_12)) 2 (some q76_14))))))), _, _, _, _, _, _, _]) _
  refine cn_S.iinc (i := 1) (v := 3) (dd DX7_init 42 rfl) rfl (by decide) rfl ?_
  show cn_S _ _ _ _ _ 2 27 _ 87 [some (.ref a), some (.int 3)] [] _ _
  refine cn_S.goto (tgt := 66) (dd DX7_init 43 rfl) (by decide) ?_
  refine cn_S.iload_n (i := 1) (dd DX7_init 32 rfl) rfl rfl ?_
  refine cn_S.iconst (v := 4) (dd DX7_init 33 rfl) (by decide) ?_
  refine cn_S.ge_f (tgt := 90) (dd DX7_init 34 rfl) (by decide) (by decide) ?_
  refine cn_S.aload_n (i := 0) (dd DX7_init 35 rfl) rfl rfl ?_
  refine cn_S.get (dd DX7_init 36 rfl) rfl fX7_35 hk rfl ?_
  refine cn_S.iload_n (i := 1) (dd DX7_init 37 rfl) rfl rfl ?_
  refine cn_S.new (own := RX7) (c := 1) (n := 24) (dd DX7_init 38 rfl) rfl nwX7_33 (fun q76_16 => ?_)
  show cn_S _ _ _ _ _ 1 24 _ 79 [some (.ref a), some (.int 3)] [.ref q76_16, .int 3, .ref q50_8] (cw _ _ [_, _, _, _, _, _, _, _, _, _, _, _, _, _, _, _, _, _, _, _, _, _, _, _, _, _, _, _, _, _, _, _, _, _, _, _, _, _, _, _, _, _, _, _, _, _, _, _, _, _, _, _]) _
  refine cn_S.dup (dd DX7_init 39 rfl) ?_
  refine cn_S.init (c := 0) (n := 0) (y := 51) (dd DX7_init 40 rfl) rfl ciX7_43 con_X4 rfl rfl (Nat.le_of_ble_eq_true rfl) (fun f1 t1 hq => ?_)
  obtain ⟨q7_0_80_17, rfl, rfl⟩ := hq
  show cn_S _ _ _ _ _ 0 0 _ 83 [some (.ref a), some (.int 3)] [.ref q76_16, .int 3, .ref q50_8] (cw _ _ [_, _, _, _, _, _, _, _, _, _, _, _, _, _, _, _, _, _, _, _, _, _, _, _, _, _, _, _, _, _, _, _, _, _, _, _, _, _, _, _, _, _, _, _, _, _, _, _, _, _, _, (q76_16, .inr (4, [.ref q7_0_80_17, .int 0, .int 0])), _]) _
  refine cn_S.aast (t := 3) (x := 43) (y := 51) (dd DX7_init 41 rfl) rfl rfl rfl rfl (show sk_ix 3 3 4 from ⟨by decide, by decide, by decide⟩).vp ?_
  show cn_S _ _ _ _ _ 0 0 _ 84 [some (.ref a), some (.int 3)] [] (cw _ _ [_, _, _, _, _, _, _, _, _, _, _, _, _, _, _, _, _, _, _, _, _, _, _, _, _, _, _, _, _, _, _, _, _, _, _, _, _, _, _, _, _, _, _, (q50_8, .inl (T 3, 4, .inr (.inr (.inr (.inr (va_up (va_up (va_up (va_up (fun _ => none) 0 (some q76_10)) 1 (some q76_12)) 2 (some q76_14)) 3 (some q76_16))))))), _, _, _, _, _, _, _, _, _]) _
  refine cn_S.iinc (i := 1) (v := 4) (dd DX7_init 42 rfl) rfl (by decide) rfl ?_
  show cn_S _ _ _ _ _ 0 0 _ 87 [some (.ref a), some (.int 4)] [] _ _
  refine cn_S.goto (tgt := 66) (dd DX7_init 43 rfl) (by decide) ?_
  refine cn_S.iload_n (i := 1) (dd DX7_init 32 rfl) rfl rfl ?_
  refine cn_S.iconst (v := 4) (dd DX7_init 33 rfl) (by decide) ?_
  refine cn_S.ge_t (tgt := 90) (dd DX7_init 34 rfl) (by decide) (by decide) ?_
  exact cn_S.ret ⟨⟨_, _, ⟨q5_0, q6_0_9_1, q13_1_9_1, q21_2_9_1, q29_3_9_1, q38_4_9_1, q46_5_9_1, q83_6_9_1, q83_8_9_1, q83_10_9_1, q83_12_9_1, q83_14_9_1, q83_16_9_1, q109_18_9_1, q7_0_113_19_9_1, q15_1_113_19_9_1, q109_20_9_1, q7_0_113_21_9_1, q15_1_113_21_9_1, q16_2, q6_0_20_3, q13_1_20_3, q21_2_20_3, q29_3_20_3, q38_4_20_3, q46_5_20_3, q83_6_20_3, q83_8_20_3, q83_10_20_3, q83_12_20_3, q83_14_20_3, q83_16_20_3, q109_18_20_3, q7_0_113_19_20_3, q15_1_113_19_20_3, q109_20_20_3, q7_0_113_21_20_3, q15_1_113_21_20_3, q27_4, q7_0_31_5, q15_1_31_5, q38_6, q7_0_42_7, q50_8, q59_9, q76_10, q7_0_80_11, q76_12, q7_0_80_13, q76_14, q7_0_80_15, q76_16, q7_0_80_17, rfl, rfl⟩, rfl⟩, (dd DX7_init 44 rfl)⟩
theorem ol_X8 : Cond.methodLink RX8 3 objectInit ∈ gg_W := gg_at 803 (by decide +kernel)
theorem ffX8_9 : cn_ff RX8 9 7 0 (tyX8 0) := ⟨RX8, TX8, 20, tyX8, rfl, uX8, by decide, gg_at 804 (by decide +kernel), tyX8_ok, nmX8, rfl, rfl, tyX8_ok 0 (by decide)⟩
theorem ffX8_13 : cn_ff RX8 13 7 1 (tyX8 1) := ⟨RX8, TX8, 20, tyX8, rfl, uX8, by decide, gg_at 805 (by decide +kernel), tyX8_ok, nmX8, rfl, rfl, tyX8_ok 1 (by decide)⟩
theorem ffX8_16 : cn_ff RX8 16 7 3 (tyX8 3) := ⟨RX8, TX8, 20, tyX8, rfl, uX8, by decide, gg_at 807 (by decide +kernel), tyX8_ok, nmX8, rfl, rfl, tyX8_ok 3 (by decide)⟩
theorem ffX8_19 : cn_ff RX8 19 7 4 (tyX8 4) := ⟨RX8, TX8, 20, tyX8, rfl, uX8, by decide, gg_at 808 (by decide +kernel), tyX8_ok, nmX8, rfl, rfl, tyX8_ok 4 (by decide)⟩
theorem ffX8_22 : cn_ff RX8 22 7 5 (tyX8 5) := ⟨RX8, TX8, 20, tyX8, rfl, uX8, by decide, gg_at 809 (by decide +kernel), tyX8_ok, nmX8, rfl, rfl, tyX8_ok 5 (by decide)⟩
theorem ffX8_25 : cn_ff RX8 25 7 6 (tyX8 6) := ⟨RX8, TX8, 20, tyX8, rfl, uX8, by decide, gg_at 810 (by decide +kernel), tyX8_ok, nmX8, rfl, rfl, tyX8_ok 6 (by decide)⟩
theorem ffX8_28 : cn_ff RX8 28 7 7 (tyX8 7) := ⟨RX8, TX8, 20, tyX8, rfl, uX8, by decide, gg_at 811 (by decide +kernel), tyX8_ok, nmX8, rfl, rfl, tyX8_ok 7 (by decide)⟩
theorem ffX8_31 : cn_ff RX8 31 7 8 (tyX8 8) := ⟨RX8, TX8, 20, tyX8, rfl, uX8, by decide, gg_at 812 (by decide +kernel), tyX8_ok, nmX8, rfl, rfl, tyX8_ok 8 (by decide)⟩
theorem ffX8_34 : cn_ff RX8 34 7 9 (tyX8 9) := ⟨RX8, TX8, 20, tyX8, rfl, uX8, by decide, gg_at 813 (by decide +kernel), tyX8_ok, nmX8, rfl, rfl, tyX8_ok 9 (by decide)⟩
theorem ffX8_37 : cn_ff RX8 37 7 10 (tyX8 10) := ⟨RX8, TX8, 20, tyX8, rfl, uX8, by decide, gg_at 814 (by decide +kernel), tyX8_ok, nmX8, rfl, rfl, tyX8_ok 10 (by decide)⟩
theorem ffX8_40 : cn_ff RX8 40 7 16 (tyX8 16) := ⟨RX8, TX8, 20, tyX8, rfl, uX8, by decide, gg_at 820 (by decide +kernel), tyX8_ok, nmX8, rfl, rfl, tyX8_ok 16 (by decide)⟩
theorem ffX8_43 : cn_ff RX8 43 7 17 (tyX8 17) := ⟨RX8, TX8, 20, tyX8, rfl, uX8, by decide, gg_at 821 (by decide +kernel), tyX8_ok, nmX8, rfl, rfl, tyX8_ok 17 (by decide)⟩
set_option maxRecDepth 100000 in
set_option maxHeartbeats 4000000 in
theorem con_X8 {l : Launch} {G : va_G} {T : Nat → ClassId} {S0 d : Nat} : cn_K l G T S0 (d + 1) 12 1070 MX8_init 7 [.null, .null, .int 0, .null, .null, .null, .null, .null, .null, .null, .null, .int 0, .int 0, .int 0, .int 0, .int 0, .null, .null, .int 0, .int 0] (fun a fs tl => ∃ q8_0 q17_1 q25_2 q32_3 q39_4 q47_5 q55_6 q63_7 q70_8 q78_9 q86_10 q94_11, fs = [.ref q8_0, .ref q17_1, .int 0, .ref q25_2, .ref q32_3, .ref q39_4, .ref q47_5, .ref q55_6, .ref q63_7, .ref q70_8, .ref q78_9, .int 0, .int 0, .int 0, .int 0, .int 0, .ref q86_10, .ref q94_11, .int 0, .int 0] ∧ tl = [(q8_0, .inl (T 0, 361, .inl (upd (upd (upd (upd (upd (upd (fun _ => 0) 1 1) 6 20) 13 2) 14 2) 15 2) 16 2))), (q17_1, .inl (T 0, 361, .inl (fun _ => 0))), (q25_2, .inl (T 0, 7, .inl (fun _ => 0))), (q32_3, .inl (T 0, 4, .inl (fun _ => 0))), (q39_4, .inl (T 0, 4, .inl (fun _ => 0))), (q47_5, .inl (T 0, 96, .inl (fun _ => 0))), (q55_6, .inl (T 0, 60, .inl (fun _ => 0))), (q63_7, .inl (T 0, 60, .inl (fun _ => 0))), (q70_8, .inl (T 0, 3, .inl (fun _ => 0))), (q78_9, .inl (T 0, 60, .inl (fun _ => 0))), (q86_10, .inl (T 0, 24, .inl (fun _ => 0))), (q94_11, .inl (T 0, 30, .inl (fun _ => 0)))]) := by
  intro ws0 k a hk
  refine cn_M.of (by decide +kernel) rfl (by intro v hv; simp at hv; subst hv; rfl) (Nat.le_of_ble_eq_true rfl) ?_
  show cn_S l G T S0 (d + 1) 12 1070 _ 0 [some (.ref a), none] [] (cw (ws0, k, a, 7) [.null, .null, .int 0, .null, .null, .null, .null, .null, .null, .null, .null, .int 0, .int 0, .int 0, .int 0, .int 0, .null, .null, .int 0, .int 0] []) _
  refine cn_S.aload_n (i := 0) (dd DX8_init 0 rfl) rfl rfl ?_
  refine cn_S.obj (dd DX8_init 1 rfl) rfl ol_X8 rfl (Nat.le_of_ble_eq_true rfl) ?_
  show cn_S _ _ _ _ _ 12 1070 _ 4 [some (.ref a), none] [] _ _
  refine cn_S.aload_n (i := 0) (dd DX8_init 2 rfl) rfl rfl ?_
  refine cn_S.sipush (v := 361) (dd DX8_init 3 rfl) (by decide) ?_
  refine cn_S.newa (c := 11) (n := 709) (N := 361) (dd DX8_init 4 rfl) (by decide) (by decide) (by decide) (fun q8_0 => ?_)
  show cn_S _ _ _ _ _ 11 709 _ 10 [some (.ref a), none] [.ref q8_0, .ref a] (cw _ _ [_]) _
  refine cn_S.putF (dd DX8_init 5 rfl) rfl rfl ffX8_9 hk rfl rfl (Nat.le_of_ble_eq_true rfl) ?_
  show cn_S _ _ _ _ _ 11 709 _ 13 [some (.ref a), none] [] (cw _ [.ref q8_0, _, _, _, _, _, _, _, _, _, _, _, _, _, _, _, _, _, _, _] [_]) _
  refine cn_S.aload_n (i := 0) (dd DX8_init 6 rfl) rfl rfl ?_
  refine cn_S.sipush (v := 361) (dd DX8_init 7 rfl) (by decide) ?_
  refine cn_S.newa (c := 10) (n := 348) (N := 361) (dd DX8_init 8 rfl) (by decide) (by decide) (by decide) (fun q17_1 => ?_)
  show cn_S _ _ _ _ _ 10 348 _ 19 [some (.ref a), none] [.ref q17_1, .ref a] (cw _ _ [_, _]) _
  refine cn_S.putF (dd DX8_init 9 rfl) rfl rfl ffX8_13 hk rfl rfl (Nat.le_of_ble_eq_true rfl) ?_
  show cn_S _ _ _ _ _ 10 348 _ 22 [some (.ref a), none] [] (cw _ [_, .ref q17_1, _, _, _, _, _, _, _, _, _, _, _, _, _, _, _, _, _, _] [_, _]) _
  refine cn_S.aload_n (i := 0) (dd DX8_init 10 rfl) rfl rfl ?_
  refine cn_S.bipush (v := 7) (dd DX8_init 11 rfl) (by decide) ?_
  refine cn_S.newa (c := 9) (n := 341) (N := 7) (dd DX8_init 12 rfl) (by decide) (by decide) (by decide) (fun q25_2 => ?_)
  show cn_S _ _ _ _ _ 9 341 _ 27 [some (.ref a), none] [.ref q25_2, .ref a] (cw _ _ [_, _, _]) _
  refine cn_S.putF (dd DX8_init 13 rfl) rfl rfl ffX8_16 hk rfl rfl (Nat.le_of_ble_eq_true rfl) ?_
  show cn_S _ _ _ _ _ 9 341 _ 30 [some (.ref a), none] [] (cw _ [_, _, _, .ref q25_2, _, _, _, _, _, _, _, _, _, _, _, _, _, _, _, _] [_, _, _]) _
  refine cn_S.aload_n (i := 0) (dd DX8_init 14 rfl) rfl rfl ?_
  refine cn_S.iconst (v := 4) (dd DX8_init 15 rfl) (by decide) ?_
  refine cn_S.newa (c := 8) (n := 337) (N := 4) (dd DX8_init 16 rfl) (by decide) (by decide) (by decide) (fun q32_3 => ?_)
  show cn_S _ _ _ _ _ 8 337 _ 34 [some (.ref a), none] [.ref q32_3, .ref a] (cw _ _ [_, _, _, _]) _
  refine cn_S.putF (dd DX8_init 17 rfl) rfl rfl ffX8_19 hk rfl rfl (Nat.le_of_ble_eq_true rfl) ?_
  show cn_S _ _ _ _ _ 8 337 _ 37 [some (.ref a), none] [] (cw _ [_, _, _, _, .ref q32_3, _, _, _, _, _, _, _, _, _, _, _, _, _, _, _] [_, _, _, _]) _
  refine cn_S.aload_n (i := 0) (dd DX8_init 18 rfl) rfl rfl ?_
  refine cn_S.iconst (v := 4) (dd DX8_init 19 rfl) (by decide) ?_
  refine cn_S.newa (c := 7) (n := 333) (N := 4) (dd DX8_init 20 rfl) (by decide) (by decide) (by decide) (fun q39_4 => ?_)
  show cn_S _ _ _ _ _ 7 333 _ 41 [some (.ref a), none] [.ref q39_4, .ref a] (cw _ _ [_, _, _, _, _]) _
  refine cn_S.putF (dd DX8_init 21 rfl) rfl rfl ffX8_22 hk rfl rfl (Nat.le_of_ble_eq_true rfl) ?_
  show cn_S _ _ _ _ _ 7 333 _ 44 [some (.ref a), none] [] (cw _ [_, _, _, _, _, .ref q39_4, _, _, _, _, _, _, _, _, _, _, _, _, _, _] [_, _, _, _, _]) _
  refine cn_S.aload_n (i := 0) (dd DX8_init 22 rfl) rfl rfl ?_
  refine cn_S.bipush (v := 96) (dd DX8_init 23 rfl) (by decide) ?_
  refine cn_S.newa (c := 6) (n := 237) (N := 96) (dd DX8_init 24 rfl) (by decide) (by decide) (by decide) (fun q47_5 => ?_)
  show cn_S _ _ _ _ _ 6 237 _ 49 [some (.ref a), none] [.ref q47_5, .ref a] (cw _ _ [_, _, _, _, _, _]) _
  refine cn_S.putF (dd DX8_init 25 rfl) rfl rfl ffX8_25 hk rfl rfl (Nat.le_of_ble_eq_true rfl) ?_
  show cn_S _ _ _ _ _ 6 237 _ 52 [some (.ref a), none] [] (cw _ [_, _, _, _, _, _, .ref q47_5, _, _, _, _, _, _, _, _, _, _, _, _, _] [_, _, _, _, _, _]) _
  refine cn_S.aload_n (i := 0) (dd DX8_init 26 rfl) rfl rfl ?_
  refine cn_S.bipush (v := 60) (dd DX8_init 27 rfl) (by decide) ?_
  refine cn_S.newa (c := 5) (n := 177) (N := 60) (dd DX8_init 28 rfl) (by decide) (by decide) (by decide) (fun q55_6 => ?_)
  show cn_S _ _ _ _ _ 5 177 _ 57 [some (.ref a), none] [.ref q55_6, .ref a] (cw _ _ [_, _, _, _, _, _, _]) _
  refine cn_S.putF (dd DX8_init 29 rfl) rfl rfl ffX8_28 hk rfl rfl (Nat.le_of_ble_eq_true rfl) ?_
  show cn_S _ _ _ _ _ 5 177 _ 60 [some (.ref a), none] [] (cw _ [_, _, _, _, _, _, _, .ref q55_6, _, _, _, _, _, _, _, _, _, _, _, _] [_, _, _, _, _, _, _]) _
  refine cn_S.aload_n (i := 0) (dd DX8_init 30 rfl) rfl rfl ?_
  refine cn_S.bipush (v := 60) (dd DX8_init 31 rfl) (by decide) ?_
  refine cn_S.newa (c := 4) (n := 117) (N := 60) (dd DX8_init 32 rfl) (by decide) (by decide) (by decide) (fun q63_7 => ?_)
  show cn_S _ _ _ _ _ 4 117 _ 65 [some (.ref a), none] [.ref q63_7, .ref a] (cw _ _ [_, _, _, _, _, _, _, _]) _
  refine cn_S.putF (dd DX8_init 33 rfl) rfl rfl ffX8_31 hk rfl rfl (Nat.le_of_ble_eq_true rfl) ?_
  show cn_S _ _ _ _ _ 4 117 _ 68 [some (.ref a), none] [] (cw _ [_, _, _, _, _, _, _, _, .ref q63_7, _, _, _, _, _, _, _, _, _, _, _] [_, _, _, _, _, _, _, _]) _
  refine cn_S.aload_n (i := 0) (dd DX8_init 34 rfl) rfl rfl ?_
  refine cn_S.iconst (v := 3) (dd DX8_init 35 rfl) (by decide) ?_
  refine cn_S.newa (c := 3) (n := 114) (N := 3) (dd DX8_init 36 rfl) (by decide) (by decide) (by decide) (fun q70_8 => ?_)
  show cn_S _ _ _ _ _ 3 114 _ 72 [some (.ref a), none] [.ref q70_8, .ref a] (cw _ _ [_, _, _, _, _, _, _, _, _]) _
  refine cn_S.putF (dd DX8_init 37 rfl) rfl rfl ffX8_34 hk rfl rfl (Nat.le_of_ble_eq_true rfl) ?_
  show cn_S _ _ _ _ _ 3 114 _ 75 [some (.ref a), none] [] (cw _ [_, _, _, _, _, _, _, _, _, .ref q70_8, _, _, _, _, _, _, _, _, _, _] [_, _, _, _, _, _, _, _, _]) _
  refine cn_S.aload_n (i := 0) (dd DX8_init 38 rfl) rfl rfl ?_
  refine cn_S.bipush (v := 60) (dd DX8_init 39 rfl) (by decide) ?_
  refine cn_S.newa (c := 2) (n := 54) (N := 60) (dd DX8_init 40 rfl) (by decide) (by decide) (by decide) (fun q78_9 => ?_)
  show cn_S _ _ _ _ _ 2 54 _ 80 [some (.ref a), none] [.ref q78_9, .ref a] (cw _ _ [_, _, _, _, _, _, _, _, _, _]) _
  refine cn_S.putF (dd DX8_init 41 rfl) rfl rfl ffX8_37 hk rfl rfl (Nat.le_of_ble_eq_true rfl) ?_
  show cn_S _ _ _ _ _ 2 54 _ 83 [some (.ref a), none] [] (cw _ [_, _, _, _, _, _, _, _, _, _, .ref q78_9, _, _, _, _, _, _, _, _, _] [_, _, _, _, _, _, _, _, _, _]) _
  refine cn_S.aload_n (i := 0) (dd DX8_init 42 rfl) rfl rfl ?_
  refine cn_S.bipush (v := 24) (dd DX8_init 43 rfl) (by decide) ?_
  refine cn_S.newa (c := 1) (n := 30) (N := 24) (dd DX8_init 44 rfl) (by decide) (by decide) (by decide) (fun q86_10 => ?_)
  show cn_S _ _ _ _ _ 1 30 _ 88 [some (.ref a), none] [.ref q86_10, .ref a] (cw _ _ [_, _, _, _, _, _, _, _, _, _, _]) _
  refine cn_S.putF (dd DX8_init 45 rfl) rfl rfl ffX8_40 hk rfl rfl (Nat.le_of_ble_eq_true rfl) ?_
  show cn_S _ _ _ _ _ 1 30 _ 91 [some (.ref a), none] [] (cw _ [_, _, _, _, _, _, _, _, _, _, _, _, _, _, _, _, .ref q86_10, _, _, _] [_, _, _, _, _, _, _, _, _, _, _]) _
  refine cn_S.aload_n (i := 0) (dd DX8_init 46 rfl) rfl rfl ?_
  refine cn_S.bipush (v := 30) (dd DX8_init 47 rfl) (by decide) ?_
  refine cn_S.newa (c := 0) (n := 0) (N := 30) (dd DX8_init 48 rfl) (by decide) (by decide) (by decide) (fun q94_11 => ?_)
  show cn_S _ _ _ _ _ 0 0 _ 96 [some (.ref a), none] [.ref q94_11, .ref a] (cw _ _ [_, _, _, _, _, _, _, _, _, _, _, _]) _
  refine cn_S.putF (dd DX8_init 49 rfl) rfl rfl ffX8_43 hk rfl rfl (Nat.le_of_ble_eq_true rfl) ?_
  show cn_S _ _ _ _ _ 0 0 _ 99 [some (.ref a), none] [] (cw _ [_, _, _, _, _, _, _, _, _, _, _, _, _, _, _, _, _, .ref q94_11, _, _] [_, _, _, _, _, _, _, _, _, _, _, _]) _
  refine cn_S.aload_n (i := 0) (dd DX8_init 50 rfl) rfl rfl ?_
  refine cn_S.get (dd DX8_init 51 rfl) rfl fX8_9 hk rfl ?_
  refine cn_S.iconst (v := 1) (dd DX8_init 52 rfl) (by decide) ?_
  refine cn_S.iconst (v := 1) (dd DX8_init 53 rfl) (by decide) ?_
  refine cn_S.iast (x := 0) (dd DX8_init 54 rfl) rfl (show sk_ix 1 1 361 from ⟨by decide, by decide, by decide⟩).vp ?_
  show cn_S _ _ _ _ _ 0 0 _ 106 [some (.ref a), none] [] (cw _ _ [(q8_0, .inl (T 0, 361, .inl (upd (fun _ => 0) 1 1))), _, _, _, _, _, _, _, _, _, _, _]) _
  refine cn_S.aload_n (i := 0) (dd DX8_init 55 rfl) rfl rfl ?_
  refine cn_S.get (dd DX8_init 56 rfl) rfl fX8_9 hk rfl ?_
  refine cn_S.bipush (v := 6) (dd DX8_init 57 rfl) (by decide) ?_
  refine cn_S.bipush (v := 20) (dd DX8_init 58 rfl) (by decide) ?_
  refine cn_S.iast (x := 0) (dd DX8_init 59 rfl) rfl (show sk_ix 6 6 361 from ⟨by decide, by decide, by decide⟩).vp ?_
  show cn_S _ _ _ _ _ 0 0 _ 115 [some (.ref a), none] [] (cw _ _ [(q8_0, .inl (T 0, 361, .inl (upd (upd (fun _ => 0) 1 1) 6 20))), _, _, _, _, _, _, _, _, _, _, _]) _
  refine cn_S.iconst (v := 0) (dd DX8_init 60 rfl) (by decide) ?_
  refine cn_S.istore_n (i := 1) (dd DX8_init 61 rfl) rfl (Nat.le_of_ble_eq_true rfl) rfl ?_
  show cn_S _ _ _ _ _ 0 0 _ 117 [some (.ref a), some (.int 0)] [] _ _
  refine cn_S.iload_n (i := 1) (dd DX8_init 62 rfl) rfl rfl ?_
  refine cn_S.iconst (v := 4) (dd DX8_init 63 rfl) (by decide) ?_
  refine cn_S.ge_f (tgt := 138) (dd DX8_init 64 rfl) (by decide) (by decide) ?_
  refine cn_S.aload_n (i := 0) (dd DX8_init 65 rfl) rfl rfl ?_
  refine cn_S.get (dd DX8_init 66 rfl) rfl fX8_9 hk rfl ?_
  refine cn_S.bipush (v := 13) (dd DX8_init 67 rfl) (by decide) ?_
  refine cn_S.iload_n (i := 1) (dd DX8_init 68 rfl) rfl rfl ?_
  refine cn_S.iadd (dd DX8_init 69 rfl) ?_
  show cn_S _ _ _ _ _ 0 0 _ 130 [some (.ref a), some (.int 0)] [.int 13, .ref q8_0] _ _
  refine cn_S.iconst (v := 2) (dd DX8_init 70 rfl) (by decide) ?_
  refine cn_S.iast (x := 0) (dd DX8_init 71 rfl) rfl (show sk_ix 13 13 361 from ⟨by decide, by decide, by decide⟩).vp ?_
  show cn_S _ _ _ _ _ 0 0 _ 132 [some (.ref a), some (.int 0)] [] (cw _ _ [(q8_0, .inl (T 0, 361, .inl (upd (upd (upd (fun _ => 0) 1 1) 6 20) 13 2))), _, _, _, _, _, _, _, _, _, _, _]) _
  refine cn_S.iinc (i := 1) (v := 1) (dd DX8_init 72 rfl) rfl (by decide) rfl ?_
  show cn_S _ _ _ _ _ 0 0 _ 135 [some (.ref a), some (.int 1)] [] _ _
  refine cn_S.goto (tgt := 117) (dd DX8_init 73 rfl) (by decide) ?_
  refine cn_S.iload_n (i := 1) (dd DX8_init 62 rfl) rfl rfl ?_
  refine cn_S.iconst (v := 4) (dd DX8_init 63 rfl) (by decide) ?_
  refine cn_S.ge_f (tgt := 138) (dd DX8_init 64 rfl) (by decide) (by decide) ?_
  refine cn_S.aload_n (i := 0) (dd DX8_init 65 rfl) rfl rfl ?_
  refine cn_S.get (dd DX8_init 66 rfl) rfl fX8_9 hk rfl ?_
  refine cn_S.bipush (v := 13) (dd DX8_init 67 rfl) (by decide) ?_
  refine cn_S.iload_n (i := 1) (dd DX8_init 68 rfl) rfl rfl ?_
  refine cn_S.iadd (dd DX8_init 69 rfl) ?_
  show cn_S _ _ _ _ _ 0 0 _ 130 [some (.ref a), some (.int 1)] [.int 14, .ref q8_0] _ _
  refine cn_S.iconst (v := 2) (dd DX8_init 70 rfl) (by decide) ?_
  refine cn_S.iast (x := 0) (dd DX8_init 71 rfl) rfl (show sk_ix 14 14 361 from ⟨by decide, by decide, by decide⟩).vp ?_
  show cn_S _ _ _ _ _ 0 0 _ 132 [some (.ref a), some (.int 1)] [] (cw _ _ [(q8_0, .inl (T 0, 361, .inl (upd (upd (upd (upd (fun _ => 0) 1 1) 6 20) 13 2) 14 2))), _, _, _, _, _, _, _, _, _, _, _]) _
  refine cn_S.iinc (i := 1) (v := 2) (dd DX8_init 72 rfl) rfl (by decide) rfl ?_
  show cn_S _ _ _ _ _ 0 0 _ 135 [some (.ref a), some (.int 2)] [] _ _
  refine cn_S.goto (tgt := 117) (dd DX8_init 73 rfl) (by decide) ?_
  refine cn_S.iload_n (i := 1) (dd DX8_init 62 rfl) rfl rfl ?_
  refine cn_S.iconst (v := 4) (dd DX8_init 63 rfl) (by decide) ?_
  refine cn_S.ge_f (tgt := 138) (dd DX8_init 64 rfl) (by decide) (by decide) ?_
  refine cn_S.aload_n (i := 0) (dd DX8_init 65 rfl) rfl rfl ?_
  refine cn_S.get (dd DX8_init 66 rfl) rfl fX8_9 hk rfl ?_
  refine cn_S.bipush (v := 13) (dd DX8_init 67 rfl) (by decide) ?_
  refine cn_S.iload_n (i := 1) (dd DX8_init 68 rfl) rfl rfl ?_
  refine cn_S.iadd (dd DX8_init 69 rfl) ?_
  show cn_S _ _ _ _ _ 0 0 _ 130 [some (.ref a), some (.int 2)] [.int 15, .ref q8_0] _ _
  refine cn_S.iconst (v := 2) (dd DX8_init 70 rfl) (by decide) ?_
  refine cn_S.iast (x := 0) (dd DX8_init 71 rfl) rfl (show sk_ix 15 15 361 from ⟨by decide, by decide, by decide⟩).vp ?_
  show cn_S _ _ _ _ _ 0 0 _ 132 [some (.ref a), some (.int 2)] [] (cw _ _ [(q8_0, .inl (T 0, 361, .inl (upd (upd (upd (upd (upd (fun _ => 0) 1 1) 6 20) 13 2) 14 2) 15 2))), _, _, _, _, _, _, _, _, _, _, _]) _
  refine cn_S.iinc (i := 1) (v := 3) (dd DX8_init 72 rfl) rfl (by decide) rfl ?_
  show cn_S _ _ _ _ _ 0 0 _ 135 [some (.ref a), some (.int 3)] [] _ _
  refine cn_S.goto (tgt := 117) (dd DX8_init 73 rfl) (by decide) ?_
  refine cn_S.iload_n (i := 1) (dd DX8_init 62 rfl) rfl rfl ?_
  refine cn_S.iconst (v := 4) (dd DX8_init 63 rfl) (by decide) ?_
  refine cn_S.ge_f (tgt := 138) (dd DX8_init 64 rfl) (by decide) (by decide) ?_
  refine cn_S.aload_n (i := 0) (dd DX8_init 65 rfl) rfl rfl ?_
  refine cn_S.get (dd DX8_init 66 rfl) rfl fX8_9 hk rfl ?_
  refine cn_S.bipush (v := 13) (dd DX8_init 67 rfl) (by decide) ?_
  refine cn_S.iload_n (i := 1) (dd DX8_init 68 rfl) rfl rfl ?_
  refine cn_S.iadd (dd DX8_init 69 rfl) ?_
  show cn_S _ _ _ _ _ 0 0 _ 130 [some (.ref a), some (.int 3)] [.int 16, .ref q8_0] _ _
  refine cn_S.iconst (v := 2) (dd DX8_init 70 rfl) (by decide) ?_
  refine cn_S.iast (x := 0) (dd DX8_init 71 rfl) rfl (show sk_ix 16 16 361 from ⟨by decide, by decide, by decide⟩).vp ?_
  show cn_S _ _ _ _ _ 0 0 _ 132 [some (.ref a), some (.int 3)] [] (cw _ _ [(q8_0, .inl (T 0, 361, .inl (upd (upd (upd (upd (upd (upd (fun _ => 0) 1 1) 6 20) 13 2) 14 2) 15 2) 16 2))), _, _, _, _, _, _, _, _, _, _, _]) _
  refine cn_S.iinc (i := 1) (v := 4) (dd DX8_init 72 rfl) rfl (by decide) rfl ?_
  show cn_S _ _ _ _ _ 0 0 _ 135 [some (.ref a), some (.int 4)] [] _ _
  refine cn_S.goto (tgt := 117) (dd DX8_init 73 rfl) (by decide) ?_
  refine cn_S.iload_n (i := 1) (dd DX8_init 62 rfl) rfl rfl ?_
  refine cn_S.iconst (v := 4) (dd DX8_init 63 rfl) (by decide) ?_
  refine cn_S.ge_t (tgt := 138) (dd DX8_init 64 rfl) (by decide) (by decide) ?_
  exact cn_S.ret ⟨⟨_, _, ⟨q8_0, q17_1, q25_2, q32_3, q39_4, q47_5, q55_6, q63_7, q70_8, q78_9, q86_10, q94_11, rfl, rfl⟩, rfl⟩, (dd DX8_init 74 rfl)⟩
end CON
