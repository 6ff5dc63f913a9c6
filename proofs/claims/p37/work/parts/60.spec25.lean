section SPEC25
/-- what a voice leaves in the class: the trace's length, whether parted, the rest of the fields, the trace -/
def tcQ (h g : sk_M) (n : Nat) (bs : List Int32) (p : Int32) : Prop := sk_o [4, 17] h g ∧ g 4 1 = nI (n + bs.length) ∧ g 4 2 = p ∧ (∀ k, ¬ k = 1 → ¬ k = 2 → g 4 k = h 4 k) ∧ g 17 = appT (h 17) n bs
theorem tcQ.tr {h g f : sk_M} {n : Nat} {a b : List Int32} {p q : Int32} (x : tcQ h g n a p) (y : tcQ g f (n + a.length) b q) : tcQ h f n (a ++ b) q := by
  obtain ⟨x1, x2, x3, x4, x5⟩ := x
  obtain ⟨y1, y2, y3, y4, y5⟩ := y
  refine ⟨x1.tr y1, ?_, y3, fun k h1 h2 => (y4 k h1 h2).trans (x4 k h1 h2), ?_⟩
  · rw [y2, List.length_append, Nat.add_assoc]
  · rw [y5, x5, appT_app]
theorem tcQ.rf {h : sk_M} {n : Nat} (e : h 4 1 = nI n) : tcQ h h n [] (h 4 2) := ⟨sk_o.rf, e, rfl, fun _ _ _ => rfl, rfl⟩
/-- the fields while a voice is heard -/
def voI (h : sk_M) (K m : Int32) (t n : Nat) : Prop := h 4 3 = K ∧ h 4 4 = nI t ∧ h 4 5 = m ∧ h 4 2 = 0 ∧ h 4 1 = nI n
theorem voI.up {h g : sk_M} {K m : Int32} {t n : Nat} {bs : List Int32} (V : voI h K m t n) (x : tcQ h g n bs 0) : voI g K m t (n + bs.length) :=
  ⟨(x.2.2.2.1 3 (by decide) (by decide)).trans V.1, (x.2.2.2.1 4 (by decide) (by decide)).trans V.2.1, (x.2.2.2.1 5 (by decide) (by decide)).trans V.2.2.1, x.2.2.1, x.2.1⟩
theorem pshC {h : sk_M} {n : Nat} {b : Int32} (e : h 4 1 = nI n) (e0 : h 4 2 = 0) : tcQ h (sk_u (sk_u h 17 n b) 4 1 (sk_u h 17 n b 4 1 + 1)) n [b] 0 := by
  refine ⟨(sk_o.rf.u (by decide)).u (by decide), ?_, ?_, fun k h1 h2 => ?_, ?_⟩
  · rw [sk_u_at, if_pos rfl, if_pos rfl, sk_u_at, if_neg (by decide), e, nI_1]
    rfl
  · rw [sk_u_at, if_pos rfl, if_neg (by decide), sk_u_at, if_neg (by decide), e0]
  · rw [sk_u_at, if_pos rfl, if_neg h1, sk_u_at, if_neg (by decide)]
  · show sk_r _ 4 _ 17 = _
    rw [sk_r_ne _ _ (by decide), sk_u, sk_r_eq]
    rfl
theorem tcQ.pt {h : sk_M} {n : Nat} (e : h 4 1 = nI n) : tcQ h (sk_u h 4 2 1) n [] 1 := by
  refine ⟨sk_o.rf.u (by decide), ?_, ?_, fun k h1 h2 => ?_, ?_⟩
  · rw [sk_u_at, if_pos rfl, if_neg (by decide), e]; rfl
  · rw [sk_u_at, if_pos rfl, if_pos rfl]
  · rw [sk_u_at, if_pos rfl, if_neg h2]
  · rw [sk_u, sk_r_ne _ _ (by decide)]; rfl
end SPEC25
section SPEC25B
def tcV (h g : sk_M) (bs : List Int32) (p : Int32) : Prop := sk_o [4, 17] h g ∧ g 4 1 = nI bs.length ∧ g 4 2 = p ∧ g 17 = appT (h 17) 0 bs
theorem tcV.of {h g f : sk_M} {bs : List Int32} {p : Int32} (o : sk_o [4] h g) (x : tcQ g f 0 bs p) : tcV h f bs p :=
  ⟨(o.more (by decide)).tr x.1, by rw [x.2.1, Nat.zero_add], x.2.2.1, by rw [x.2.2.2.2, o 17 (by decide)]⟩
end SPEC25B
