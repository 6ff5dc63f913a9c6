section STR
def ex_E (E : sk_V) (t : Nat) : sk_V := (E.1, E.2.1, E.2.2.1, (fun k => if k = 72 then t else E.2.2.2.1 k), E.2.2.2.2)
section
variable {E : sk_V} {t : Nat}
theorem ex_a {k : Nat} (hk : k ≠ 72) : sk_a (ex_E E t) k = sk_a E k := if_neg hk
theorem ex_72 : sk_a (ex_E E t) 72 = t := by
  show (if 72 = 72 then t else sk_a E 72) = t
  exact if_pos rfl
theorem ex_A : sk_A (ex_E E t) = sk_A E := funext fun q => propext ⟨fun ⟨k, hk, e⟩ => ⟨k, hk, by rw [e, ex_a (by omega)]⟩, fun ⟨k, hk, e⟩ => ⟨k, hk, by rw [e, ex_a (by omega)]⟩⟩
theorem ex_v {v : Value} (hv : v ≠ .ref 72) : sk_v (ex_E E t) v = sk_v E v := by
  cases v with
  | ref k => exact congrArg Value.ref (ex_a (fun e => hv (by rw [e])))
  | _ => rfl
def rf_ok (k : Nat) : Bool := (sk_e k).2.2.2.all fun r => match r with
  | some x => decide (x < 67)
  | none => true
theorem rf_all : ∀ k, k < 67 → rf_ok k = true := by decide +kernel
theorem rf_lt {k i r : Nat} (hk : k < 67) (h : sk_rf (sk_e k).2.2.2 i = some r) : r < 67 := by
  have h1 := rf_all k hk
  have h2 : some r ∈ (sk_e k).2.2.2 := by
    unfold sk_rf at h
    rw [List.getD_eq_getElem?_getD] at h
    cases e : (sk_e k).2.2.2[i]? with
    | none => rw [e] at h; exact absurd h (by simp)
    | some q =>
      rw [e] at h
      have h3 : q = some r := h
      rw [← h3]
      exact List.mem_of_getElem? e
  have h4 := List.all_eq_true.mp h1 _ h2
  exact of_decide_eq_true h4
theorem ex_c {h : sk_M} {k : Nat} (hk : k < 67) : sk_c (ex_E E t) h k (sk_e k) = sk_c E h k (sk_e k) := by
  have hr : ∀ i r, sk_rf (sk_e k).2.2.2 i = some r → r ≠ 72 := fun i r e => by have := rf_lt hk e; omega
  generalize sk_e k = x at hr ⊢
  obtain ⟨a, c, n, rs⟩ := x
  unfold sk_c
  split
  · rfl
  · rename_i e
    cases e
    refine congrArg (fun q => (Sum.inr (_, q) : va_E)) (List.map_congr_left fun i _ => ex_v ?_)
    unfold sk_g
    split
    · rename_i r e2
      intro e3
      cases e3
      exact hr i _ e2 rfl
    · intro e3
      cases e3
  · rename_i e
    cases e
    have e2 : (fun i => (sk_rf rs i).map (sk_a (ex_E E t))) = (fun i => (sk_rf rs i).map (sk_a E)) := by
      funext i
      cases e3 : sk_rf rs i with
      | none => rfl
      | some r => exact congrArg some (ex_a (hr i r e3))
    rw [e2]
    rfl
theorem ex_W {h : sk_M} : sk_W (ex_E E t) h = sk_W E h := List.map_congr_left fun k hk => by
  have h1 := List.mem_range.mp hk
  rw [ex_a (by omega), ex_c h1]
theorem ex_F {s : State} (h : sk_F E s) : sk_F (ex_E E t) s := by
  obtain ⟨h1, h2, h3, h4, h5, h6, h7, h8, h9⟩ := h
  refine ⟨h1, fun i j hi hj e => h2 i j hi hj (by rw [ex_a (by omega), ex_a (by omega)] at e; exact e), fun k n f e => ?_, fun q hq => ?_, ?_, ?_, ?_, ?_, h9⟩
  · rw [ex_A]
    have hk : k ≠ 72 := by intro e2; subst e2; rw [show sk_ro (ex_E E t) 72 = none from rfl] at e; cases e
    rw [ex_a hk]
    exact h3 k n f e
  · rw [ex_A]
    have hk : q.2.2 ≠ 72 := by
      simp only [st_K, List.mem_cons, List.not_mem_nil, or_false] at hq
      rcases hq with rfl | rfl <;> decide
    rw [ex_a hk]
    exact h4 q hq
  · rw [ex_A, ex_a (by decide), ex_a (by decide)]
    exact h5
  · rw [ex_a (by decide)]; exact h6
  · rw [ex_A]; exact h7
  · rw [ex_A]; exact h8
end
section
variable {l : Launch} {E : sk_V} {d : Nat} {M : sk_m} {pc : Nat} {L : List (Option Value)} {St : List Value} {h : sk_M} {Q : Option Value → sk_M → Prop}
theorem st_c : Cond.fieldLink "java/lang/String" 15 "java/lang/String" "coder" "B" ∈ gg_W := gg_at 1237 (by decide +kernel)
theorem st_v : Cond.fieldLink "java/lang/String" 9 "java/lang/String" "value" "[B" ∈ gg_W := gg_at 1236 (by decide +kernel)
theorem st_g : Cond.fieldLink "java/lang/String" 38 "java/lang/String" "COMPACT_STRINGS" "Z" ∈ gg_W := gg_at 485 (by decide +kernel)
theorem st_q : Cond.fieldLink "java/lang/String" 1053 "jdk/internal/util/Preconditions" "SIOOBE_FORMATTER" "Ljava/util/function/BiFunction;" ∈ gg_W := gg_at 501 (by decide +kernel)
/-- the string constant -/
theorem sk_S.ldcs (hd : decode M.2.1 pc = .ok (.ldc 82, 2)) (ho : M.1.cls = "PromisedFish$Reader") (k : sk_S l E d M (pc + 2) L (.ref 70 :: St) h Q) : sk_S l E d M pc L St h Q := by
  intro p e R s m args below meth c ce so Z C hc hs hz H locs ls hP hS hl
  have hown := C.2.2.2.1
  rw [ho] at hown
  exact va_ldcS C.1 C.2.1 hown C.2.2.2.2.2.1.2.2.2.2.2.1 hd (k p e R s m args below meth c ce so Z C hc hs hz H locs ls hP hS hl)
theorem sk_S.strc (hd : decode M.2.1 pc = .ok (.getfield 15, 3)) (ho : M.1.cls = "java/lang/String") (k : sk_S l E d M (pc + 3) L (.int 0 :: St) h Q) : sk_S l E d M pc L (.ref 70 :: St) h Q := by
  intro p e R s m args below meth c ce so Z C hc hs hz H locs ls hP hS hl
  have hown := C.2.2.2.1
  rw [ho] at hown
  exact vk_getf C.1 C.2.1 (C.2.2.2.2.2.1.2.2.2.2.1.1 0 (by decide)).2.1 hS hown (C.2.2.2.2.1 _ st_c) (fun _ z => z) hd (k p e R s m args below meth c ce so Z C hc hs hz H locs ls hP hS hl)
theorem sk_S.strv (hd : decode M.2.1 pc = .ok (.getfield 9, 3)) (ho : M.1.cls = "java/lang/String") (k : sk_S l E d M (pc + 3) L (.ref 71 :: St) h Q) : sk_S l E d M pc L (.ref 70 :: St) h Q := by
  intro p e R s m args below meth c ce so Z C hc hs hz H locs ls hP hS hl
  have hown := C.2.2.2.1
  rw [ho] at hown
  exact vk_getf C.1 C.2.1 (C.2.2.2.2.2.1.2.2.2.2.1.1 0 (by decide)).2.2.1 hS hown (C.2.2.2.2.1 _ st_v) (fun _ z => z) hd (k p e R s m args below meth c ce so Z C hc hs hz H locs ls hP hS hl)
theorem sk_S.stl (hd : decode M.2.1 pc = .ok (.arraylength, 1)) (k : sk_S l E d M (pc + 1) L (.int 6 :: St) h Q) : sk_S l E d M pc L (.ref 71 :: St) h Q := by
  intro p e R s m args below meth c ce so Z C hc hs hz H locs ls hP hS hl
  exact va_tlen C.1 C.2.1 (C.2.2.2.2.2.1.2.2.2.2.1.1 0 (by decide)).2.2.2 hS (v := 6) rfl hd (k p e R s m args below meth c ce so Z C hc hs hz H locs ls hP hS hl)
theorem sk_S.stb {i v : Int32} {j : Nat} (hd : decode M.2.1 pc = .ok (.baload, 1)) (hi : sk_ix i j 6) (hv : ([99, 115, 110, 112, 116, 110] : List Int32).getD j 0 = v) (k : sk_S l E d M (pc + 1) L (.int v :: St) h Q) : sk_S l E d M pc L (.int i :: .ref 71 :: St) h Q := by
  intro p e R s m args below meth c ce so Z C hc hs hz H locs ls hP hS hl
  refine va_tb C.1 C.2.1 (C.2.2.2.2.2.1.2.2.2.2.1.1 0 (by decide)).2.2.2 hS hi.vp (v := .int v) ?_ hd (k p e R s m args below meth c ce so Z C hc hs hz H locs ls hP hS hl)
  rw [hi.2.1, ← hv]
  rfl
theorem sk_S.gcs (hd : decode M.2.1 pc = .ok (.getstatic 38, 3)) (ho : M.1.cls = "java/lang/String") (k : sk_S l E d M (pc + 3) L (.int 1 :: St) h Q) : sk_S l E d M pc L St h Q := by
  intro p e R s m args below meth c ce so Z C hc hs hz H locs ls hP hS hl
  have hown := C.2.2.2.1
  rw [ho] at hown
  exact va_gets C.1 C.2.1 C.2.2.2.2.2.1.2.2.2.2.2.2.1 hS hown (C.2.2.2.2.1 _ st_g) (fun _ z => z) hd (k p e R s m args below meth c ce so Z C hc hs hz H locs ls hP hS hl)
theorem sk_S.gsq (hd : decode M.2.1 pc = .ok (.getstatic 1053, 3)) (ho : M.1.cls = "java/lang/String") (hL : ∀ v, some v ∈ L → v ≠ .ref 72) (hSt : ∀ v ∈ St, v ≠ .ref 72) (kn : sk_S l E d M (pc + 3) L (.null :: St) h Q) (kr : ∀ t, sk_S l (ex_E E t) d M (pc + 3) L (.ref 72 :: St) h Q) : sk_S l E d M pc L St h Q := by
  intro p e R s m args below meth c ce so Z C hc hs hz H locs ls hP hS hl
  have hown := C.2.2.2.1
  rw [ho] at hown
  rcases C.2.2.2.2.2.1.2.2.2.2.2.2.2.1 with hn | ⟨t, ht⟩
  · exact va_gets C.1 C.2.1 hn hS hown (C.2.2.2.2.1 _ st_q) (fun _ z => z) hd (kn p e R s m args below meth c ce so Z C hc hs hz H locs ls hP hS hl)
  · refine va_gets C.1 C.2.1 ht hS hown (C.2.2.2.2.1 _ st_q) (fun _ z => z) hd ?_
    have C2 : sk_C (ex_E E t) d M p R s m args meth c := ⟨C.1, C.2.1, C.2.2.1, C.2.2.2.1, C.2.2.2.2.1, ex_F C.2.2.2.2.2.1, C.2.2.2.2.2.2⟩
    have hmap : (Value.ref 72 :: St).map (sk_v (ex_E E t)) = .ref t :: St.map (sk_v E) := by
      rw [List.map_cons, show sk_v (ex_E E t) (.ref 72) = .ref t from congrArg Value.ref ex_72, List.map_congr_left (fun v hv => ex_v (hSt v hv))]
    have h2 := kr t p e R s m args below meth c ce so Z C2 hc hs (fun r h1 H1 locs1 pc1 ls1 q hP1 hS1 hret => ?_) H locs ls (by rw [ex_W]; exact hP) (by rw [ex_A]; exact hS) ⟨hl.1, hl.2.1, fun i v hv => by rw [ex_v (hL v (List.mem_of_getElem? hv))]; exact hl.2.2 i v hv⟩
    · rw [hmap] at h2
      exact h2
    · rw [ex_W] at hP1
      rw [ex_A] at hS1
      have h3 := hz r h1 H1 locs1 pc1 ls1 q hP1 hS1 hret
      rcases hret with ⟨v, ty, rfl, -⟩ | ⟨rfl, -⟩
      · exact h3
      · exact h3
theorem sk_S.callT {own : String} {i n : Nat} {as rest : List Value} {M1 : sk_m} {Q1 : Option Value → sk_M → Prop} (hd : decode M.2.1 pc = .ok (.invokevirtual i, 3)) (ho : M.1.cls = own) (hc : sk_cl own i M1 n true) (hM : sk_K l E d M1 (.ref 70 :: as) h Q1) (hci : M1.1.cls = "java/lang/String") (hlen : as.length = n) (hL : L.length = M.2.2.1) (hst : St = as.reverse ++ .ref 70 :: rest) (hrest : (rest.map fun v => v.category).sum ≤ 8)
    (k : ∀ r h1, Q1 r h1 → sk_S l E (d + 1) M (pc + 3) L (r.toList ++ rest) h1 Q) : sk_S l E (d + 1) M pc L St h Q := by
  intro p e R s m args below meth c ce so Z C hce hso hz H locs ls hP hS hl
  subst ho; subst hst
  obtain ⟨w1, w2, w3, w4, w5, w6⟩ := hc
  rw [if_pos rfl] at w5
  have hFr : d + 1 ≤ R.frames := C.2.2.2.2.2.2.2.2.1
  have hLo : 60 * (d + 1) ≤ R.locals := C.2.2.2.2.2.2.2.2.2
  have hrecv := vk_recv C.2.2.2.2.2.1.2.2.2.2.1 (i := 0) (by decide) hS
  rw [← hci] at hrecv
  have hpre : PreV s H M1.1.cls (sk_a E 70) (sk_P E h (.ref 70 :: as)) (as.map (sk_v E)) := ⟨sk_blind, hrecv, fun U hU hW => ⟨rfl, by rw [hU]; exact hP, C.2.2.2.2.2.1.go hW (fun a h1 h2 => by rw [hU]; exact hS.2.1 a h1 h2)⟩⟩
  have hst : ((as.reverse ++ Value.ref 70 :: rest).map (sk_v E)) = (as.map (sk_v E)).reverse ++ .ref (sk_a E 70) :: rest.map (sk_v E) := by
    rw [List.map_append, List.map_reverse]; rfl
  have fin : ∀ (r : Option Value) (h1 : sk_M) (H1 : Heap) (locs1 : List Loc), Q1 r h1 → va_P (sk_G E) vwCl (sk_W E h1) H1 → va_S (sk_A E) s.heap H1 locs1 → W p l e R s m args below meth c H1 locs1 ce so Z (F0 m (pc + 3) ls ((r.map (sk_v E)).toList ++ rest.map (sk_v E))) := by
    intro r h1 H1 locs1 hq hP1 hS1
    have h2 := k r h1 hq p e R s m args below meth c ce so Z C hce hso hz H1 locs1 ls hP1 hS1 hl
    have e3 : (r.toList ++ rest).map (sk_v E) = (r.map (sk_v E)).toList ++ rest.map (sk_v E) := by cases r <;> simp
    rw [e3] at h2
    exact h2
  have fixx : CallFix p m c M.2.1 M.2.2.1 s args gg_W M.1.cls := ⟨C.1, C.2.1, C.2.2.1, C.2.2.2.1, C.2.2.2.2.1⟩
  have hini : (Cond.initialized M1.1.cls).before args s = true := C.2.2.2.2.1 _ w2
  rcases w6 with w6 | ⟨host, w6⟩
  · have cb : CallB R s args M.1.cls i M1.1 M1.2.1 M1.2.2.1 M1.2.2.2 (sk_w M1) (sk_R d) 0 0 n := callB_of n C.2.2.2.2.1 (gg_in (sk_w_in w1)) rfl rfl rfl hini (C.2.2.2.2.1 _ w6) w3 ⟨by show d + 1 ≤ _; exact hFr, by show 8 + (M1.2.2.1 + 11) + 60 * d ≤ _; omega⟩
    exact sk_run (va_runV (C := M1.1.cls) fixx hM ⟨cb, C.2.2.2.2.1 _ w5.1, C.2.2.2.2.1 _ w5.2⟩ hpre rfl (by rw [List.length_map]; exact hlen) (hl.1.trans hL) hst (lv_room (sk_rest hrest)) hd ⟨hce, hso⟩) hS fin
  · have cb : va_CN R s args M.1.cls i M1.1 host M1.2.1 M1.2.2.1 M1.2.2.2 (sk_w M1) (sk_R d) 0 0 n := va_cnB n C.2.2.2.2.1 (gg_in (sk_w_in w1)) rfl rfl rfl (C.2.2.2.2.2.1.2.2.2.2.2.2.2.2 _ w6) hini w3 ⟨by show d + 1 ≤ _; exact hFr, by show 8 + (M1.2.2.1 + 11) + 60 * d ≤ _; omega⟩
    exact sk_run (va_runVN (C := M1.1.cls) fixx hM ⟨cb, C.2.2.2.2.1 _ w5.1, C.2.2.2.2.1 _ w5.2⟩ hpre rfl (by rw [List.length_map]; exact hlen) (hl.1.trans hL) hst (lv_room (sk_rest hrest)) hd ⟨hce, hso⟩) hS fin
end
end STR
