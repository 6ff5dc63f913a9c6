section SPEC3
theorem iinc_m1 {x : Int32} : x + Int32.ofInt (-1) = x - 1 := by
  rw [Int32.sub_eq_add_neg]; rfl
theorem sk_S.L {l : Launch} {E : sk_V} {d : Nat} {M : sk_m} {pc : Nat} {L L1 : List (Option Value)} {St : List Value} {h : sk_M} {Q : Option Value → sk_M → Prop} (k : sk_S l E d M pc L1 St h Q) (e : L = L1) : sk_S l E d M pc L St h Q := e ▸ k
section
variable {A B : Nat → Int32} {a b c : Int32} {p : Nat → Int32} {k : Nat}
theorem evS_1 (q : A k = 1) : (evS A B a b c p (k + 1)).2 = upd (evS A B a b c p k).2 (depN A k) (B k) := by
  show (evT (A k) (B k) a b c (evS A B a b c p k)).2 = _
  unfold evT; rw [if_pos q, evS_dep]
theorem evS_2 (q : A k = 2) : (evS A B a b c p (k + 1)).2 = upd (evS A B a b c p k).2 (depN A k) (nmV (B k) a b c) := by
  show (evT (A k) (B k) a b c (evS A B a b c p k)).2 = _
  unfold evT; rw [if_neg (by rw [q]; decide), if_pos q, evS_dep]
theorem evS_3 (q : A k = 3) : (evS A B a b c p (k + 1)).2 = upd (evS A B a b c p k).2 (depN A k - 1) (bi ((evS A B a b c p k).2 (depN A k - 1) = 0)) := by
  show (evT (A k) (B k) a b c (evS A B a b c p k)).2 = _
  unfold evT; rw [if_neg (by rw [q]; decide), if_neg (by rw [q]; decide), if_pos q, evS_dep]
theorem evS_4 (q1 : ¬ A k = 1) (q2 : ¬ A k = 2) (q3 : ¬ A k = 3) : (evS A B a b c p (k + 1)).2 = upd (evS A B a b c p k).2 (depN A k - 2) (twoV (A k) ((evS A B a b c p k).2 (depN A k - 2)) ((evS A B a b c p k).2 (depN A k - 1))) := by
  show (evT (A k) (B k) a b c (evS A B a b c p k)).2 = _
  unfold evT; rw [if_neg q1, if_neg q2, if_neg q3, evS_dep]
theorem depN_1 (q : A k = 1) : depN A (k + 1) = depN A k + 1 := by rw [depN, if_pos q]
theorem depN_2 (q : A k = 2) : depN A (k + 1) = depN A k + 1 := by rw [depN, if_neg (by rw [q]; decide), if_pos q]
theorem depN_3 (q : A k = 3) : depN A (k + 1) = depN A k := by rw [depN, if_neg (by rw [q]; decide), if_neg (by rw [q]; decide), if_pos q]
theorem depN_4 (q1 : ¬ A k = 1) (q2 : ¬ A k = 2) (q3 : ¬ A k = 3) : depN A (k + 1) = depN A k - 1 := by rw [depN, if_neg q1, if_neg q2, if_neg q3]
end
theorem ix3 {x : Int32} (hx : x = 0 ∨ x = 1 ∨ x = 2) : sk_ix x x.toNatClampNeg 3 := by
  rcases hx with rfl | rfl | rfl <;> exact ⟨by decide, rfl, by decide⟩
theorem nm3 {x a b c : Int32} {f : Nat → Int32} (hx : x = 0 ∨ x = 1 ∨ x = 2) (f0 : f 0 = a) (f1 : f 1 = b) (f2 : f 2 = c) : f x.toNatClampNeg = nmV x a b c := by
  rcases hx with rfl | rfl | rfl
  · exact f0
  · exact f1
  · exact f2
theorem ix_p {j n : Nat} (h1 : 1 ≤ j) (h2 : j - 1 < n) (hn : n < 2147483648) : sk_ix (nI j - 1) (j - 1) n := sk_ix_nI (nI_sub (b := 1) h1) h2 hn
theorem ix_p2 {j n : Nat} (h1 : 2 ≤ j) (h2 : j - 2 < n) (hn : n < 2147483648) : sk_ix (nI j - 1 - 1) (j - 2) n :=
  sk_ix_nI (by have e1 := nI_sub (a := j) (b := 1) (by omega); have e2 := nI_sub (a := j - 1) (b := 1) (by omega); show nI j - nI 1 - nI 1 = _; rw [e1, e2]; rfl) h2 hn
end SPEC3
