section SPEC34
def erC (h : sk_M) (k : Nat) (h1 : sk_M) (r : Option Value) : Prop := sk_u h 6 k (h 6 k + 1) = h1 ∧ some (.int (erI k)) = r
def SHl : List Nat := [6, 7, 8, 9, 10, 11, 12, 13, 14]
theorem Inv.er {h h1 h2 : sk_M} {k : Nat} {r r2 : Option Value} (H : Inv h) (c : erC h k h1 r) (m : erM h1 k h2 r2) : Inv h2 ∧ r = r2 ∧ ∃ w, some (.int w) = r2 := by
  obtain ⟨rfl, rfl⟩ := c
  have c1 : oC h (sk_u h 6 k (h 6 k + 1)) (h 55) (erI k) (some (.int (erI k))) := oC.er H.1 sk_o.rf
  have m1 := oM.er m
  have e : sk_u h 6 k (h 6 k + 1) 55 = h 55 := sk_r_ne _ _ (by decide)
  rw [e] at m1
  exact ⟨H.go c1 m1 H.2.1, m.2, _, m.2⟩
theorem Inv.sh {h h1 h2 : sk_M} (H : Inv h) (oc : sk_o SHl h h1) (om : sk_o [57, 58, 59, 60] h1 h2) (hs : shQ h2) : Inv h2 := by
  obtain ⟨a1, a2, a3, a4, a5⟩ := H
  have e55 : h2 55 = h 55 := (om 55 (by decide)).trans (oc 55 (by decide))
  have e54 : h1 54 = h 54 := oc 54 (by decide)
  have f54 : h2 54 = h1 54 := om 54 (by decide)
  refine ⟨?_, by rw [e55]; exact a2, hs, (a4.o oc (by decide) (by rw [e54])).o om (by decide) (by rw [f54]), (a5.o oc (by decide) (by rw [e54])).o om (by decide) (by rw [f54])⟩
  rw [e55]
  exact (a1.o oc (by decide)).o om (by decide)
theorem Inv.vo {h h1 h2 : sk_M} (H : Inv h) (oc : sk_o [4, 6, 17] h h1) (om : sk_o [54, 57, 66] h1 h2) (e2 : h2 54 2 = h1 54 2) (hv : voQ h2) : Inv h2 := by
  obtain ⟨a1, a2, a3, a4, a5⟩ := H
  have e55 : h2 55 = h 55 := (om 55 (by decide)).trans (oc 55 (by decide))
  have e54 : h1 54 = h 54 := oc 54 (by decide)
  refine ⟨?_, by rw [e55]; exact a2, (a3.o oc (by decide)).o om (by decide), hv, (a5.o oc (by decide) (by rw [e54])).o om (by decide) e2⟩
  rw [e55]
  exact (a1.o oc (by decide)).o om (by decide)
theorem appT_at {f g : Nat → Int32} : ∀ (bs : List Int32) (n k : Nat), n ≤ k → k < n + bs.length → appT f n bs k = appT g n bs k
  | [], n, k, h1, h2 => by simp at h2; omega
  | b :: bs, n, k, h1, h2 => by
    show appT (upd f n b) (n + 1) bs k = appT (upd g n b) (n + 1) bs k
    by_cases q : k = n
    · subst q
      have e : ∀ (bs : List Int32) (f : Nat → Int32) (m : Nat), k < m → appT f m bs k = f k := by
        intro bs
        induction bs with
        | nil => intro f m hm; rfl
        | cons b bs ih => intro f m hm; show appT (upd f m b) (m + 1) bs k = f k; rw [ih _ _ (by omega), upd_ne (by omega)]
      rw [e _ _ _ (by omega), e _ _ _ (by omega), upd_eq, upd_eq]
    · have h3 : (b :: bs).length = bs.length + 1 := rfl
      have := appT_at (f := upd f n b) (g := upd g n b) bs (n + 1) k (by omega) (by omega)
      exact this
theorem vo_len {i : Nat} {k m t : Int32} : (voB i k m t).length ≤ 30 := by
  have hC : (voCb k).length ≤ 3 := by unfold voCb; (repeat' split) <;> decide
  have hP : (voPb k).length ≤ 4 := by unfold voPb; simp only [List.length_cons]; omega
  have hH : (voHb k).length ≤ 6 := by unfold voHb; (repeat' split) <;> first | (simp only [List.length_cons]; omega) | omega
  unfold voB
  split
  · omega
  · omega
  · unfold voLb; (repeat' split) <;> first | (simp only [List.length_cons]; omega) | omega
  · unfold voRb; (repeat' split) <;> first | (simp only [List.length_cons, List.length_nil]; omega) | omega
theorem st_J {l : Launch} {E : sk_V} {h : sk_M} {dc dm : Nat} {MC MM : sk_m} {as bs : List Value} {P : sk_M → Option Value → Prop} {Q : sk_M → sk_M → Option Value → Prop} (kc : sk_K l E dc MC as h (fun r h1 => P h1 r)) (km : ∀ h1 r, P h1 r → sk_K l E dm MM bs h1 (fun r2 h2 => Q h1 h2 r2))
    (hv : ∀ h1 r, P h1 r → ∃ v, some (.int v) = r) (J : ∀ h1 h2 r r2, P h1 r → Q h1 h2 r2 → Inv h2 ∧ r = r2 ∧ ∃ w, some (.int w) = r2) :
    sk_K l E dc MC as h (fun r h1 => ∃ v, some (.int v) = r ∧ sk_K l E dm MM bs h1 (fun r2 h2 => ∃ w, some (.int w) = r2 ∧ Inv h2 ∧ v = w)) :=
  kc.mono (fun r h1 q => by
    obtain ⟨v, rfl⟩ := hv h1 r q
    refine ⟨v, rfl, (km h1 _ q).mono (fun r2 h2 q2 => ?_)⟩
    obtain ⟨j1, j2, w, j3⟩ := J h1 h2 _ _ q q2
    refine ⟨w, j3, j1, ?_⟩
    rw [← j2] at j3
    cases j3
    rfl)
noncomputable def shK (s b n : Int32) : Nat := cif (inN s 4 ∧ okB b) (cif (¬ b = 0 ∧ n < 0) 3 (cif (¬ b = 0 ∧ 24 < n) 1 0)) 1
/-- a sheet of the class laid anew -/
def layC (h : sk_M) (j : Nat) (b n : Int32) : sk_M := sk_r (sk_u (sk_u h (7 + j) 1 b) (7 + j) 2 n) (11 + j) (filN (sk_u (sk_u h (7 + j) 1 b) (7 + j) 2 n (11 + j)) 24 0)
theorem shl_in {j : Nat} (hj : j < 4) : 7 + j ∈ SHl ∧ 11 + j ∈ SHl := by
  rcases (by omega : j = 0 ∨ j = 1 ∨ j = 2 ∨ j = 3) with rfl | rfl | rfl | rfl <;> exact ⟨by decide, by decide⟩
theorem layC_o {h : sk_M} {j : Nat} {b n : Int32} (hj : j < 4) : sk_o SHl h (layC h j b n) := ((sk_o.rf.u (shl_in hj).1).u (shl_in hj).1).r (shl_in hj).2
theorem layC_at {h : sk_M} {j : Nat} {b n : Int32} (hj : j < 4) : layC h j b n (7 + j) 1 = b ∧ layC h j b n (7 + j) 2 = n ∧ (∀ k, k < 24 → layC h j b n (11 + j) k = 0) ∧ ∀ c, c ≠ 7 + j → c ≠ 11 + j → layC h j b n c = h c := by
  have e : ∀ c, c ≠ 11 + j → layC h j b n c = sk_u (sk_u h (7 + j) 1 b) (7 + j) 2 n c := fun c hc => sk_r_ne _ _ hc
  refine ⟨?_, ?_, fun k hk => ?_, fun c h1 h2 => ?_⟩
  · rw [e _ (by omega), sk_u_at, if_pos rfl, if_neg (by decide), sk_u_at, if_pos rfl, if_pos rfl]
  · rw [e _ (by omega), sk_u_at, if_pos rfl, if_pos rfl]
  · unfold layC
    rw [sk_r_eq]
    exact if_pos hk
  · rw [e _ h2]
    funext i
    rw [sk_u_at, if_neg h1, sk_u_at, if_neg h1]
theorem clrN_no {f : Nat → Int32} {a n k : Nat} (h : k < a ∨ a + n ≤ k) : clrN f a n k = f k := if_neg (by omega)
theorem clrN_in {f : Nat → Int32} {a n k : Nat} (h : a ≤ k ∧ k < a + n) : clrN f a n k = 0 := if_pos h
theorem ptV_0 {b : Int32} : ptV b 0 = 0 := by
  unfold ptV
  (repeat' split) <;> rfl
theorem loV_0 {b : Int32} : loV b 0 = 0 := by
  unfold loV
  (repeat' split) <;> rfl
theorem shQ.lay {h h1 h2 : sk_M} {j : Nat} {b n : Int32} (hj : j < 4) (H : shQ h) (hb : okB b) (hn : b = 0 ∨ inN n 25) (e : layC h j b (if b = 0 then 0 else n) = h1) (om : sk_o [58, 59, 60] h1 h2) (e58 : h2 58 = upd (h1 58) j b) (e59 : h2 59 = upd (h1 59) j (if b = 0 then 0 else n)) (e60 : h2 60 = clrN (h1 60) (24 * j) 24) : shQ h2 := by
  subst e
  obtain ⟨a1, a2, a3, a4⟩ := layC_at (h := h) (b := b) (n := if b = 0 then 0 else n) hj
  rw [a4 58 (by omega) (by omega)] at e58
  rw [a4 59 (by omega) (by omega)] at e59
  rw [a4 60 (by omega) (by omega)] at e60
  intro s hs
  have f1 : h2 (7 + s) = layC h j b (if b = 0 then 0 else n) (7 + s) := om _ (by simp only [List.mem_cons, List.not_mem_nil, or_false]; omega)
  have f2 : h2 (11 + s) = layC h j b (if b = 0 then 0 else n) (11 + s) := om _ (by simp only [List.mem_cons, List.not_mem_nil, or_false]; omega)
  rw [e58, e59, e60, f1, f2]
  by_cases q : s = j
  · subst q
    rw [upd_eq, upd_eq, a1, a2]
    refine ⟨hb, rfl, ?_, fun k hk => ⟨0, ?_, ?_⟩⟩
    · by_cases q : b = 0
      · rw [if_pos q]; exact ⟨0, by decide, rfl, rfl⟩
      · rw [if_neg q]
        obtain ⟨m, hm, rfl⟩ := hn.resolve_left q
        exact ⟨m, by omega, rfl, rfl⟩
    · rw [clrN_in (by omega), ptV_0]
    · rw [a3 k hk, loV_0]
  · rw [upd_ne q, upd_ne q, a4 _ (by omega) (by omega), a4 _ (by omega) (by omega)]
    obtain ⟨z1, z2, z3, z4⟩ := H s hs
    refine ⟨z1, z2, z3, fun k hk => ?_⟩
    rw [clrN_no (by omega)]
    exact z4 k hk
theorem shQ.put {h h1 h2 : sk_M} {j q : Nat} {v : Int32} (hj : j < 4) (hq : q < 24) (H : shQ h) (e : sk_u h (11 + j) q (loV (h 58 j) v) = h1) (e2 : sk_u h1 60 (24 * j + q) (ptV (h1 58 j) v) = h2) : shQ h2 := by
  have f58 : h1 58 = h 58 := by rw [← e]; exact sk_r_ne _ _ (by omega)
  have f60 : h1 60 = h 60 := by rw [← e]; exact sk_r_ne _ _ (by omega)
  have g60 : ∀ i, h2 60 i = if i = 24 * j + q then ptV (h 58 j) v else h 60 i := fun i => by rw [← e2, sk_u_at, if_pos rfl, f58, f60]
  have gc : ∀ c, c ≠ 60 → c ≠ 11 + j → h2 c = h c := fun c h1 h3 => by rw [← e2, ← e]; exact (sk_r_ne _ _ h1).trans (sk_r_ne _ _ h3)
  have g11 : ∀ i, h2 (11 + j) i = if i = q then loV (h 58 j) v else h (11 + j) i := fun i => by rw [← e2, sk_u_at, if_neg (by omega), ← e, sk_u_at, if_pos rfl]
  intro s hs
  obtain ⟨z1, z2, z3, z4⟩ := H s hs
  rw [gc 58 (by decide) (by omega), gc 59 (by decide) (by omega), gc (7 + s) (by omega) (by omega)]
  refine ⟨z1, z2, z3, fun k hk => ?_⟩
  rw [g60]
  by_cases c : s = j
  · subst c
    rw [g11]
    by_cases c2 : k = q
    · subst c2
      rw [if_pos rfl, if_pos rfl]
      exact ⟨v, rfl, rfl⟩
    · rw [if_neg (by omega), if_neg c2]
      exact z4 k hk
  · rw [if_neg (by omega), gc _ (by omega) (by omega)]
    exact z4 k hk
theorem shQ.mov {h h1 h2 : sk_M} {a b x y w : Nat} (ha : a < 4) (hb : b < 4) (hx : x + w ≤ 24) (hy : y + w ≤ 24) (hab : h 58 a = h 58 b) (H : shQ h) (e : sk_r h (11 + b) (va_cpy (h (11 + a)) (h (11 + b)) x y w) = h1) (om : sk_o [60] h1 h2) (e60 : h2 60 = mvR (h1 60) (24 * a + x) (24 * b + y) w) : shQ h2 := by
  subst e
  have e : ∀ c, c ≠ 60 → c ≠ 11 + b → h2 c = h c := fun c h1 h2 => (om c (by simpa using h1)).trans (sk_r_ne _ _ h2)
  have f60 : sk_r h (11 + b) (va_cpy (h (11 + a)) (h (11 + b)) x y w) 60 = h 60 := sk_r_ne _ _ (by omega)
  rw [f60] at e60
  intro s hs
  obtain ⟨z1, z2, z3, z4⟩ := H s hs
  rw [e 58 (by decide) (by omega), e 59 (by decide) (by omega), e (7 + s) (by omega) (by omega), e60]
  refine ⟨z1, z2, z3, fun k hk => ?_⟩
  have f11 : h2 (11 + s) = sk_r h (11 + b) (va_cpy (h (11 + a)) (h (11 + b)) x y w) (11 + s) := om _ (by simp only [List.mem_cons, List.not_mem_nil, or_false]; omega)
  rw [f11]
  by_cases c : s = b
  · subst c
    rw [sk_r_eq]
    unfold mvR va_cpy
    by_cases c2 : y ≤ k ∧ k < y + w
    · rw [if_pos (by omega), if_pos c2, ← hab, show 24 * a + x + (24 * s + k - (24 * s + y)) = 24 * a + (x + (k - y)) by omega]
      exact (H a ha).2.2.2 (x + (k - y)) (by omega)
    · rw [if_neg (by omega), if_neg c2]
      exact z4 k hk
  · rw [sk_r_ne _ _ (by omega)]
    unfold mvR
    rw [if_neg (by omega)]
    exact z4 k hk
end SPEC34
