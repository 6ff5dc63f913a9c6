section CN3
theorem cn_blind {G : va_G} {T : Nat → ClassId} {S0 : Nat} {as : List Value} {ws : va_W} : FrameBlind (cn_P G T S0 as ws) := by
  intro a U g mk q
  obtain ⟨q1, q2, q3, q4⟩ := q
  exact ⟨q1, q2, q3, q4.go (U := U.calling g mk a) (State.WarmedH.refl U) (Nat.le_refl _)⟩
theorem cn_run {p : Program} {l : Launch} {e : Env} {R : Room} {s : State} {m : MethodId} {args : Array Value} {below : List Frame} {meth : Method} {c : Code} {H : Heap} {locs : List Loc} {cells slots c1 n1 pc : Nat} {Z : State → Prop} {rest st0 : List Value} {ls : Array Slot} {a : Array Value} {G : va_G} {S0 : Nat} {Q1 : va_W → Prop}
    (hr : va_Run p l e R s m args below meth c H locs cells slots c1 n1 (F0 m pc ls st0) rest (cn_Q G S0 Q1 a) (cn_A S0)) (hS : va_S (cn_A S0) s.heap H locs)
    (kk : ∀ (ws : va_W) (H1 : Heap) (locs1 : List Loc), Q1 ws → va_P G vwCl ws H1 → va_D (cn_A S0) ws → va_S (cn_A S0) s.heap H1 locs1 → W p l e R s m args below meth c H1 locs1 (cells + c1) (slots + n1) Z (F0 m (pc + 3) ls rest)) : W p l e R s m args below meth c H locs cells slots Z (F0 m pc ls st0) := by
  intro T hT X
  obtain ⟨v, st₀, t, T', L, h0, X', hL, e1, e2, ⟨⟨hv, ws, hq, hP1, hD1⟩, hz, hk⟩, st⟩ := hr T hT X
  cases hv
  rw [h0] at hz hk
  obtain ⟨t2, a1, b1⟩ := kk ws T'.heap (locs ++ L) hq (by rw [e1]; exact hP1) hD1
    ⟨Nat.le_trans hS.1 (by rw [e1]; exact hz), fun q h1 h2 => by rw [e1, hk q (Nat.lt_of_lt_of_le h1 hS.1) h2]; exact hS.2.1 q h1 h2, fun q hq => by
      rcases List.mem_append.mp hq with h | h
      · exact hS.2.2 q h
      · exact hL q h⟩ T' rfl X'
  exact ⟨t2, st t2 a1, b1⟩
theorem cn_M.of {l : Launch} {G : va_G} {T : Nat → ClassId} {S0 d c n : Nat} {M : sk_m} {as : List Value} {ws : va_W} {Q : va_W → Prop} (hy : plainName M.1.cls = true) (hr0 : M.2.2.2 = none) (has : ∀ v ∈ as, sk_v idE v = v) (hn : (sk_in0 as).length ≤ M.2.2.1) (k : cn_S l G T S0 d c n M 0 (sk_in as M.2.2.1) [] ws (fun w pc1 _ => Q w ∧ decode M.2.1 pc1 = .ok (.return_, 1))) : cn_M l G T S0 d c n M as ws Q := by
  have hmap : as.map (sk_v idE) = as := by
    have e := List.map_congr_left (f := sk_v idE) (g := id) (l := as) (fun v hv => has v hv)
    rw [e, List.map_id]
  refine Met.ofW (cc := M.2.1) (maxL := M.2.2.1) (ret := M.2.2.2) hy rfl ?_
  intro p e s m args below meth c1 s₁ B hml hv
  obtain ⟨rfl, hP, hD, hF⟩ := hv
  have hx := B.exec
  have hb := B.bytes
  have hr := B.returns
  have hts := atoms_spec (ws := sk_w M) B.pre
  have hown : s.vm.findClass M.1.cls = some m.cls := findClass_of_methodNamed B.named
  have hlocks := B.notSynchronized
  have hin : meth.name = M.1.name := (name_of_methodNamed B.named B.method).1
  rw [lg_entry_eq]
  have hl := sk_in_l (E := idE) hn
  rw [hmap] at hl
  have h2 := k p e (cn_R d c n) s m as.toArray below meth c1 0 0 (MQ below (cn_Q G S0 Q) as.toArray s c n (cn_A S0)) ⟨hx, hb, hml, hown, fun w hw => hts w (List.mem_cons_of_mem _ hw), hF, hr, hlocks, Nat.le_refl _, Nat.le_refl _, fun z => hin.trans z⟩ (by rw [Nat.zero_add]; exact Nat.le_refl _) (by rw [Nat.zero_add]; exact Nat.le_refl _) (fun ws1 H locs pc1 L1 ls hq hP1 hD1 hS1 _ => by
    rw [Nat.zero_add, Nat.zero_add]
    exact W.vret hx hb (hr.trans hr0) (fun t ht hW => ⟨⟨rfl, ws1, hq.1, by rw [ht]; exact hP1, hD1⟩, hS1.F ht⟩) hS1.2.2 hq.2) s.heap [] _ hP hD va_S.rf hl
  exact h2
/-- a constructor's contract, whatever else the world holds -/
def cn_K (l : Launch) (G : va_G) (T : Nat → ClassId) (S0 d c n : Nat) (M : sk_m) (ci : Nat) (fs0 : List Value) (Q : Nat → List Value → va_W → Prop) : Prop :=
  ∀ (ws0 : va_W) (k a : Nat), k < ws0.length → cn_M l G T S0 d c n M [.ref a] (cw (ws0, k, a, ci) fs0 []) (fun ws1 => ∃ fs tl, Q a fs tl ∧ ws1 = cw (ws0, k, a, ci) fs tl)
section
variable {l : Launch} {G : va_G} {T : Nat → ClassId} {S0 d c n : Nat} {M : sk_m} {pc : Nat} {L : List (Option Value)} {St : List Value} {ws : va_W} {Q : va_W → Nat → List (Option Value) → Prop} {X : va_W × Nat × Nat × Nat} {fs : List Value} {tl : va_W}
theorem cn_S.init {own : String} {i y b cj c1 n1 : Nat} {M1 : sk_m} {f0 : List Value} {Q1 : Nat → List Value → va_W → Prop} (hd : decode M.2.1 pc = .ok (.invokespecial i, 3)) (ho : M.1.cls = own) (hc : cn_ci own i M1) (hM : cn_K l G T S0 d c1 n1 M1 cj f0 Q1) (hy : tl[y]? = some (b, .inr (cj, f0))) (hL : L.length = M.2.2.1) (hSt : (St.map fun v => v.category).sum ≤ 8)
    (k : ∀ f1 t1, Q1 b f1 t1 → cn_S l G T S0 (d + 1) c n M (pc + 3) L St (cw X fs (tl.set y (b, .inr (cj, f1)) ++ t1)) Q) : cn_S l G T S0 (d + 1) (c1 + c) (n1 + n) M pc L (.ref b :: St) (cw X fs tl) Q := by
  intro p e R s m args below meth kc ce so Z C hcc hs hz H locs ls hP hD hS hl
  subst ho
  obtain ⟨w1, w2, w3, w4, w5, w6, w7, w8⟩ := hc
  have hFr : d + 1 ≤ R.frames := C.2.2.2.2.2.2.2.2.1
  have hLo : 60 * (d + 1) ≤ R.locals := C.2.2.2.2.2.2.2.2.2.1
  have hWy : (cw X fs tl)[X.1.length + y]? = some (b, .inr (cj, f0)) := cw_tl.trans hy
  have hself := cw_self hWy
  have hM1 := hM (cw X fs tl) (X.1.length + y) b (List.getElem?_eq_some_iff.mp hWy).1
  rw [hself] at hM1
  have hpre : PreS s H (cn_P G T S0 [.ref b] (cw X fs tl)) [.ref b] := ⟨cn_blind, fun U hU hW => ⟨rfl, by rw [hU]; exact hP, hD, cn_F.go C.2.2.2.2.2.1 hW (by rw [hU]; exact hS.1)⟩⟩
  have fin : ∀ (ws1 : va_W) (H1 : Heap) (locs1 : List Loc), (∃ f1 t1, Q1 b f1 t1 ∧ ws1 = cw (cw X fs tl, X.1.length + y, b, cj) f1 t1) → va_P G vwCl ws1 H1 → va_D (cn_A S0) ws1 → va_S (cn_A S0) s.heap H1 locs1 → W p l e R s m args below meth kc H1 locs1 (ce + c1) (so + n1) Z (F0 m (pc + 3) ls St) := by
    intro ws1 H1 locs1 hq hP1 hD1 hS1
    obtain ⟨f1, t1, hq, rfl⟩ := hq
    have e9 : cw (cw X fs tl, X.1.length + y, b, cj) f1 t1 = cw X fs (tl.set y (b, .inr (cj, f1)) ++ t1) := by
      show (cw X fs tl).set (X.1.length + y) (b, .inr (cj, f1)) ++ t1 = _
      rw [cw_stl, cw_app]
    rw [e9] at hP1 hD1
    exact k f1 t1 hq p e R s m args below meth kc (ce + c1) (so + n1) Z C (by omega) (by omega) (fun ws1 H locs pc1 L1 ls a1 a2 a3 a4 a5 => by
      rw [show ce + c1 + c = ce + (c1 + c) by omega, show so + n1 + n = so + (n1 + n) by omega]
      exact hz ws1 H locs pc1 L1 ls a1 a2 a3 a4 a5) H1 locs1 ls hP1 hD1 hS1 hl
  have fixx : CallFix p m kc M.2.1 M.2.2.1 s args gg_W M.1.cls := ⟨C.1, C.2.1, C.2.2.1, C.2.2.2.1, C.2.2.2.2.1⟩
  have hini : (Cond.initialized M1.1.cls).before args s = true := C.2.2.2.2.1 _ w2
  have hcode : sk_w M1 = Cond.code M1.1 M1.2.1 M1.2.2.1 none :: gg_W := by rw [← w5]
  rcases w8 with w8 | ⟨host, w8⟩
  · have cb : CallB R s args M.1.cls i M1.1 M1.2.1 M1.2.2.1 none (sk_w M1) (cn_R d c1 n1) c1 n1 0 := callB_of 0 C.2.2.2.2.1 (gg_in (sk_w_in w1)) hcode rfl rfl hini (C.2.2.2.2.1 _ w8) w3 ⟨by show d + 1 ≤ _; exact hFr, by show 8 + (M1.2.2.1 + 11) + 60 * d ≤ _; omega⟩
    exact cn_run (va_runI (As := []) (rest := St) fixx hM1 ⟨cb, w6, C.2.2.2.2.1 _ w7⟩ hpre rfl rfl (hl.1.trans hL) rfl (lv_room hSt) hd ⟨by omega, by omega⟩) hS fin
  · have cb : va_CN R s args M.1.cls i M1.1 host M1.2.1 M1.2.2.1 none (sk_w M1) (cn_R d c1 n1) c1 n1 0 := va_cnB 0 C.2.2.2.2.1 (gg_in (sk_w_in w1)) hcode rfl rfl (C.2.2.2.2.2.1.2.1 _ w8) hini w3 ⟨by show d + 1 ≤ _; exact hFr, by show 8 + (M1.2.2.1 + 11) + 60 * d ≤ _; omega⟩
    exact cn_run (va_runIN (As := []) (rest := St) fixx hM1 ⟨cb, w6, C.2.2.2.2.1 _ w7⟩ hpre rfl rfl (hl.1.trans hL) rfl (lv_room hSt) hd ⟨by omega, by omega⟩) hS fin
/-- a static method that makes nothing -/
theorem cn_S.stat {own : String} {i j : Nat} {M1 : sk_m} {as : List Value} {Q1 : va_W → Prop} (hd : decode M.2.1 pc = .ok (.invokestatic i, 3)) (ho : M.1.cls = own) (hc : sk_cl own i M1 j false) (hr0 : M1.2.2.2 = none) (hM : cn_M l G T S0 d 0 0 M1 as ws Q1) (hlen : as.length = j) (hL : L.length = M.2.2.1) (hSt : (St.map fun v => v.category).sum ≤ 8)
    (k : ∀ w1, Q1 w1 → cn_S l G T S0 (d + 1) c n M (pc + 3) L St w1 Q) : cn_S l G T S0 (d + 1) c n M pc L (as.reverse ++ St) ws Q := by
  intro p e R s m args below meth kc ce so Z C hcc hs hz H locs ls hP hD hS hl
  subst ho
  obtain ⟨w1, w2, w3, w4, w5, w6⟩ := hc
  rw [if_neg (by decide)] at w5
  have hFr : d + 1 ≤ R.frames := C.2.2.2.2.2.2.2.2.1
  have hLo : 60 * (d + 1) ≤ R.locals := C.2.2.2.2.2.2.2.2.2.1
  have hpre : PreS s H (cn_P G T S0 as ws) as := ⟨cn_blind, fun U hU hW => ⟨rfl, by rw [hU]; exact hP, hD, cn_F.go C.2.2.2.2.2.1 hW (by rw [hU]; exact hS.1)⟩⟩
  have fin : ∀ (ws1 : va_W) (H1 : Heap) (locs1 : List Loc), Q1 ws1 → va_P G vwCl ws1 H1 → va_D (cn_A S0) ws1 → va_S (cn_A S0) s.heap H1 locs1 → W p l e R s m args below meth kc H1 locs1 (ce + 0) (so + 0) Z (F0 m (pc + 3) ls St) := fun ws1 H1 locs1 hq hP1 hD1 hS1 =>
    k ws1 hq p e R s m args below meth kc ce so Z C hcc hs hz H1 locs1 ls hP1 hD1 hS1 hl
  have fixx : CallFix p m kc M.2.1 M.2.2.1 s args gg_W M.1.cls := ⟨C.1, C.2.1, C.2.2.1, C.2.2.2.1, C.2.2.2.2.1⟩
  have hini : (Cond.initialized M1.1.cls).before args s = true := C.2.2.2.2.1 _ w2
  rcases w6 with w6 | ⟨host, w6⟩
  · have cb : CallB R s args M.1.cls i M1.1 M1.2.1 M1.2.2.1 M1.2.2.2 (sk_w M1) (cn_R d 0 0) 0 0 j := callB_of j C.2.2.2.2.1 (gg_in (sk_w_in w1)) rfl rfl rfl hini (C.2.2.2.2.1 _ w6) w3 ⟨by show d + 1 ≤ _; exact hFr, by show 8 + (M1.2.2.1 + 11) + 60 * d ≤ _; omega⟩
    exact cn_run (va_runS fixx hM ⟨cb, C.2.2.2.2.1 _ w5⟩ hpre rfl hlen (hl.1.trans hL) rfl (lv_room hSt) hd ⟨by omega, by omega⟩) hS fin
  · have cb : va_CN R s args M.1.cls i M1.1 host M1.2.1 M1.2.2.1 M1.2.2.2 (sk_w M1) (cn_R d 0 0) 0 0 j := va_cnB j C.2.2.2.2.1 (gg_in (sk_w_in w1)) rfl rfl rfl (C.2.2.2.2.2.1.2.1 _ w6) hini w3 ⟨by show d + 1 ≤ _; exact hFr, by show 8 + (M1.2.2.1 + 11) + 60 * d ≤ _; omega⟩
    exact cn_run (va_runSN fixx hM ⟨cb, C.2.2.2.2.1 _ w5, trivial⟩ hpre rfl hlen (hl.1.trans hL) rfl (lv_room hSt) hd ⟨by omega, by omega⟩) hS fin
end
end CN3
