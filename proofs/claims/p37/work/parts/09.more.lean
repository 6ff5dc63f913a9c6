section MORE
variable {l : Launch} {E : sk_V} {d : Nat} {M : sk_m} {pc : Nat} {L : List (Option Value)} {St : List Value} {h : sk_M} {Q : Option Value → sk_M → Prop}
theorem sk_S.getr {own : String} {i ci f a n r : Nat} {rs : List (Option Nat)} (hd : decode M.2.1 pc = .ok (.getfield i, 3)) (ho : M.1.cls = own) (hf : sk_fl own i ci f) (he : sk_e a = (1, ci, n, rs)) (hn : f < n) (hr : sk_rf rs f = some r) (k : sk_S l E d M (pc + 3) L (.ref r :: St) h Q) : sk_S l E d M pc L (.ref a :: St) h Q :=
  sk_S.getf hd ho hf he hn (v := .ref r) (by unfold sk_g; rw [hr]) k
theorem sk_S.geti {own : String} {i ci f a n : Nat} {rs : List (Option Nat)} (hd : decode M.2.1 pc = .ok (.getfield i, 3)) (ho : M.1.cls = own) (hf : sk_fl own i ci f) (he : sk_e a = (1, ci, n, rs)) (hn : f < n) (hr : sk_rf rs f = none) (k : sk_S l E d M (pc + 3) L (.int (h a f) :: St) h Q) : sk_S l E d M pc L (.ref a :: St) h Q :=
  sk_S.getf hd ho hf he hn (v := .int (h a f)) (by unfold sk_g; rw [hr]) k
/-- what a test answers -/
def bi (c : Prop) [Decidable c] : Int32 := if c then 1 else 0
theorem bi_t {c : Prop} [Decidable c] (q : c) : bi c = 1 := if_pos q
theorem bi_f {c : Prop} [Decidable c] (q : ¬ c) : bi c = 0 := if_neg q
theorem bi_cong {a b : Prop} [Decidable a] [Decidable b] (q : a ↔ b) : bi a = bi b := by
  unfold bi
  by_cases x : a
  · rw [if_pos x, if_pos (q.mp x)]
  · rw [if_neg x, if_neg (fun y => x (q.mpr y))]
theorem bi_narrow {c : Prop} [Decidable c] : narrow .boolean (.int (bi c)) = .int (bi c) := by
  unfold bi
  split <;> rfl
theorem sk_S.bif_eq {c : Prop} [Decidable c] {off : Int} {tgt : Nat} (hd : decode M.2.1 pc = .ok (.ifCond .eq off, 3)) (ht : (pc : Int) + off = (tgt : Int)) (kt : ¬ c → sk_S l E d M tgt L St h Q) (kf : c → sk_S l E d M (pc + 3) L St h Q) : sk_S l E d M pc L (.int (bi c) :: St) h Q := by
  refine sk_S.if_eq hd ht (fun q => kt (fun x => ?_)) (fun q => ?_)
  · rw [bi_t x] at q
    exact absurd q (by decide)
  · by_cases x : c
    · exact kf x
    · exact absurd (bi_f x) q
theorem sk_S.bif_ne {c : Prop} [Decidable c] {off : Int} {tgt : Nat} (hd : decode M.2.1 pc = .ok (.ifCond .ne off, 3)) (ht : (pc : Int) + off = (tgt : Int)) (kt : c → sk_S l E d M tgt L St h Q) (kf : ¬ c → sk_S l E d M (pc + 3) L St h Q) : sk_S l E d M pc L (.int (bi c) :: St) h Q := by
  refine sk_S.if_ne hd ht (fun q => ?_) (fun q => kf (fun x => ?_))
  · by_cases x : c
    · exact kt x
    · exact absurd (bi_f x) q
  · rw [bi_t x] at q
    exact absurd q (by decide)
theorem sk_ix_nI {x : Int32} {k n : Nat} (e : x = nI k) (hk : k < n) (hn : n < 2 ^ 31) : sk_ix x k n := by
  subst e
  exact ⟨nI_pos (by omega), nI_clamp (by omega), hk⟩
theorem nI_mul (a b : Nat) : nI a * nI b = nI (a * b) := (Int32.ofNat_mul a b).symm
theorem sk_K.mono {as : List Value} {Q1 : Option Value → sk_M → Prop} (k : sk_K l E d M as h Q1) (hq : ∀ r h1, Q1 r h1 → Q r h1) : sk_K l E d M as h Q := by
  intro p e ha h2 h3 s m args below h4 h5 h6 h7
  obtain ⟨n, o, g1, g2, g3, ⟨⟨r, h1, e1, q, hP⟩, hF⟩, g5⟩ := k p e ha h2 h3 s m args below h4 h5 h6 h7
  exact ⟨n, o, g1, g2, g3, ⟨⟨⟨r, h1, e1, hq r h1 q, hP⟩, hF⟩, g5⟩⟩
end MORE
