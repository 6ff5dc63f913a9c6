section SPEC29
noncomputable def cif {α : Type} (c : Prop) (a b : α) : α := @ite α c (Classical.propDecidable c) a b
theorem cif_t {α : Type} {c : Prop} {a b : α} (h : c) : cif c a b = a := if_pos h
theorem cif_f {α : Type} {c : Prop} {a b : α} (h : ¬ c) : cif c a b = b := if_neg h
/-- the class's cells that an ordinary act may change; the reference's -/
def CCl : List Nat := [1, 3, 6, 15, 16, 18, 19, 20, 21, 22, 23, 24, 25, 26, 27, 28, 29, 30, 31, 32, 33, 34, 35]
def MMl : List Nat := [54, 55, 57, 61, 62, 63, 64, 65]
def oC (h h1 : sk_M) (g : Nat → Int32) (v : Int32) (r : Option Value) : Prop := sk_o CCl h h1 ∧ RQ 1 18 h1 g ∧ some (.int v) = r
def oM (h h1 : sk_M) (g : Nat → Int32) (v : Int32) (r : Option Value) : Prop := sk_o MMl h h1 ∧ h1 54 2 = h 54 2 ∧ h1 54 18 = h 54 18 ∧ h1 55 = g ∧ some (.int v) = r
def loV (b v : Int32) : Int32 := if b = 32 then v else if b = 16 then v &&& 65535 else v &&& 255
def shQ (h : sk_M) : Prop := ∀ s, s < 4 → okB (h 58 s) ∧ h (7 + s) 1 = h 58 s ∧ (∃ len, len ≤ 24 ∧ h 59 s = nI len ∧ h (7 + s) 2 = nI len) ∧ ∀ k, k < 24 → ∃ v, h 60 (24 * s + k) = ptV (h 58 s) v ∧ h (11 + s) k = loV (h 58 s) v
def voQ (h : sk_M) : Prop := ∃ n, n ≤ 30 ∧ h 4 1 = nI n ∧ h 54 18 = nI n ∧ ∀ k, k < n → h 17 k = h 66 k
def imQ (h : sk_M) : Prop := h 0 6 = h 54 2 ∧ (¬ h 54 2 = 0 → RQ 2 36 h (h 56) ∧ RG (h 56))
def Inv (h : sk_M) : Prop := RQ 1 18 h (h 55) ∧ RG (h 55) ∧ shQ h ∧ voQ h ∧ imQ h
theorem shQ.o {h h1 : sk_M} {S : List Nat} (H : shQ h) (o : sk_o S h h1) (hS : ∀ k ∈ S, (k < 7 ∨ 14 < k) ∧ (k < 58 ∨ 60 < k)) : shQ h1 := by
  have e : ∀ k, (7 ≤ k ∧ k ≤ 14) ∨ (58 ≤ k ∧ k ≤ 60) → h1 k = h k := fun k hk => o k (fun m => by have := hS k m; omega)
  intro s hs
  have z := H s hs
  rw [← e 58 (by omega), ← e 59 (by omega), ← e (7 + s) (by omega), ← e 60 (by omega), ← e (11 + s) (by omega)] at z
  exact z
theorem voQ.o {h h1 : sk_M} {S : List Nat} (H : voQ h) (o : sk_o S h h1) (hS : ∀ k ∈ S, k ≠ 4 ∧ k ≠ 17 ∧ k ≠ 66) (e18 : h1 54 18 = h 54 18) : voQ h1 := by
  obtain ⟨n, hn, a, b, c⟩ := H
  have e : ∀ k, k = 4 ∨ k = 17 ∨ k = 66 → h1 k = h k := fun k hk => o k (fun m => by have := hS k m; omega)
  exact ⟨n, hn, by rw [e 4 (by omega)]; exact a, e18.trans b, fun k hk => by rw [e 17 (by omega), e 66 (by omega)]; exact c k hk⟩
theorem imQ.o {h h1 : sk_M} {S : List Nat} (H : imQ h) (o : sk_o S h h1) (hS : ∀ k ∈ S, k ≠ 0 ∧ k ≠ 2 ∧ (k < 36 ∨ 51 < k) ∧ k ≠ 56) (e2 : h1 54 2 = h 54 2) : imQ h1 := by
  refine ⟨by rw [o 0 (fun m => (hS 0 m).1 rfl), e2]; exact H.1, fun q => ?_⟩
  rw [e2] at q
  obtain ⟨a, b⟩ := H.2 q
  rw [o 56 (fun m => (hS 56 m).2.2.2 rfl)]
  exact ⟨a.o o (fun k hk => by have := hS k hk; omega), b⟩
theorem Inv.go {h h1 h2 : sk_M} {g : Nat → Int32} {v w : Int32} {r r2 : Option Value} (H : Inv h) (c : oC h h1 g v r) (m : oM h1 h2 g w r2) (hG : RG g) : Inv h2 := by
  obtain ⟨a1, a2, a3, a4, a5⟩ := H
  obtain ⟨m1, m2, m3, m4, -⟩ := m
  have e54 : h1 54 = h 54 := c.1 54 (by decide)
  refine ⟨?_, by rw [m4]; exact hG, (a3.o c.1 (by decide)).o m1 (by decide), (a4.o c.1 (by decide) (by rw [e54])).o m1 (by decide) m3, (a5.o c.1 (by decide) (by rw [e54])).o m1 (by decide) m2⟩
  rw [m4]
  exact c.2.1.o m1 (by decide)
/-- an act: the class first, then the reference -/
theorem st_of {l : Launch} {E : sk_V} {h : sk_M} {dc dm : Nat} {MC MM : sk_m} {as bs : List Value} {g : Nat → Int32} {v : Int32} (H : Inv h) (kc : sk_K l E dc MC as h (fun r h1 => oC h h1 g v r)) (km : ∀ h1, h1 54 = h 54 → h1 55 = h 55 → sk_K l E dm MM bs h1 (fun r h2 => oM h1 h2 g v r)) (hG : RG g) :
    sk_K l E dc MC as h (fun r h1 => ∃ v, some (.int v) = r ∧ sk_K l E dm MM bs h1 (fun r2 h2 => ∃ w, some (.int w) = r2 ∧ Inv h2 ∧ v = w)) :=
  kc.mono (fun r h1 c => ⟨v, c.2.2, (km h1 (c.1 54 (by decide)) (c.1 55 (by decide))).mono (fun r2 h2 m => ⟨v, m.2.2.2.2, H.go c m hG, rfl⟩)⟩)
theorem oC.er {h h1 : sk_M} {g : Nat → Int32} {k j : Nat} {x : Int32} (H : RQ 1 18 h g) (o : sk_o [34, 35] h h1) : oC h (sk_u h1 6 k x) g (erI j) (some (.int (erI j))) :=
  ⟨(o.more (by decide)).u (by decide), (H.o o (by decide)).o (sk_o.rf.u (k := 6) (S := [6]) (by decide)) (by decide), rfl⟩
theorem oM.er {h h1 : sk_M} {k : Nat} {r : Option Value} (q : erM h k h1 r) : oM h h1 (h 55) (erI k) r := by
  obtain ⟨rfl, rfl⟩ := q
  exact ⟨sk_o.rf.u (by decide), by rw [sk_u_at, if_neg (by decide)], by rw [sk_u_at, if_neg (by decide)], sk_r_ne _ _ (by decide), rfl⟩
theorem oM.o {h h1 : sk_M} {v : Int32} {r : Option Value} (o : sk_o [63, 64, 65] h h1) (e : some (.int v) = r) : oM h h1 (h 55) v r :=
  ⟨o.more (by decide), by rw [o 54 (by decide)], by rw [o 54 (by decide)], o 55 (by decide), e⟩
theorem oM.g {h h1 : sk_M} {g : Nat → Int32} {v : Int32} {r : Option Value} (o : sk_o [55, 63, 64] h h1) (eg : h1 55 = g) (e : some (.int v) = r) : oM h h1 g v r :=
  ⟨o.more (by decide), by rw [o 54 (by decide)], by rw [o 54 (by decide)], eg, e⟩
theorem oM.T {h h1 : sk_M} {k : Nat} {r : Option Value} (q : erT h k h1 r) : oM h h1 (h 55) (erI k) r := by
  obtain ⟨g, o, rfl, rfl⟩ := q
  exact ⟨(o.more (by decide)).u (by decide), by rw [sk_u_at, if_neg (by decide), o 54 (by decide)], by rw [sk_u_at, if_neg (by decide), o 54 (by decide)], (sk_r_ne _ _ (by decide)).trans (o 55 (by decide)), rfl⟩
theorem isb {h : sk_M} {g : Nat → Int32} {b : Int32} (hR : RQ 1 18 h g) (hG : RG g) : (0 ≤ b ∧ b < h 1 6) ↔ inN b (boN g) := by
  have h6 := hG.b.2
  have e : (h 1 6).toInt = (boN g : Int) := by
    rw [hR.bo.trans hG.b.1]
    exact nI_toInt (by omega)
  exact inN_lt e
end SPEC29
