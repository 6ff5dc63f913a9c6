section SPEC13
/-- a part of a row set anew from another part -/
def mvR (f : Nat → Int32) (src dst q : Nat) : Nat → Int32 := fun k => if dst ≤ k ∧ k < dst + q then f (src + (k - dst)) else f k
def mvD (f : Nat → Int32) (src dst q k : Nat) : Nat → Int32 := fun z => if dst + (q - k) ≤ z ∧ z < dst + q then f (src + (z - dst)) else f z
theorem mvR_0 {f : Nat → Int32} {src dst : Nat} : mvR f src dst 0 = f := by
  funext k
  unfold mvR
  rw [if_neg (by omega)]
theorem mvR_s {f : Nat → Int32} {src dst k : Nat} (h : ¬ (dst ≤ src + k ∧ src + k < dst + k)) : upd (mvR f src dst k) (dst + k) (mvR f src dst k (src + k)) = mvR f src dst (k + 1) := by
  have e1 : mvR f src dst k (src + k) = f (src + k) := if_neg h
  rw [e1]
  funext z
  unfold mvR upd
  by_cases q : z = dst + k
  · rw [if_pos q, if_pos (by omega), q]
    congr 1
    omega
  · rw [if_neg q]
    show (if dst ≤ z ∧ z < dst + k then f (src + (z - dst)) else f z) = _
    by_cases q2 : dst ≤ z ∧ z < dst + k
    · rw [if_pos q2, if_pos (by omega)]
    · rw [if_neg q2, if_neg (by omega)]
theorem mvD_0 {f : Nat → Int32} {src dst q : Nat} : mvD f src dst q 0 = f := by
  funext k
  unfold mvD
  rw [if_neg (by omega)]
theorem mvD_q {f : Nat → Int32} {src dst q : Nat} : mvD f src dst q q = mvR f src dst q := by
  funext k
  unfold mvD mvR
  rw [Nat.sub_self, Nat.add_zero]
theorem mvD_s {f : Nat → Int32} {src dst q k : Nat} (hk : k < q) (h : ¬ (dst + (q - k) ≤ src + (q - 1 - k) ∧ src + (q - 1 - k) < dst + q)) : upd (mvD f src dst q k) (dst + (q - 1 - k)) (mvD f src dst q k (src + (q - 1 - k))) = mvD f src dst q (k + 1) := by
  have e1 : mvD f src dst q k (src + (q - 1 - k)) = f (src + (q - 1 - k)) := if_neg h
  rw [e1]
  funext z
  unfold mvD upd
  by_cases p : z = dst + (q - 1 - k)
  · rw [if_pos p, if_pos (by omega), p]
    congr 1
    omega
  · rw [if_neg p]
    show (if dst + (q - k) ≤ z ∧ z < dst + q then f (src + (z - dst)) else f z) = _
    by_cases q2 : dst + (q - k) ≤ z ∧ z < dst + q
    · rw [if_pos q2, if_pos (by omega)]
    · rw [if_neg q2, if_neg (by omega)]
theorem ix_24b (a x k : Nat) : (24 : Int32) * nI a + nI x + nI k = nI (24 * a + x + k) := by
  rw [ix_24, nI_add]
theorem mvK_0 {h : sk_M} {s i o j n : Int32} (q : mvK h s i o j n = 0) : ∃ a b x y w : Nat, a < 4 ∧ b < 4 ∧ s = nI a ∧ o = nI b ∧ i = nI x ∧ j = nI y ∧ n = nI w ∧ ¬ h 58 a = 0 ∧ h 58 a = h 58 b ∧ x + w ≤ shN h a ∧ y + w ≤ shN h b := by
  have hx : inN s 4 ∧ inN o 4 := by
    apply Classical.byContradiction
    intro q2
    rw [mvK_no q2] at q
    omega
  obtain ⟨⟨a, ha, rfl⟩, ⟨b, hb, rfl⟩⟩ := hx
  rw [mvK_in ha hb] at q
  by_cases c1 : h 58 a = 0 ∨ h 58 b = 0
  · rw [if_pos c1] at q; omega
  · rw [if_neg c1] at q
    by_cases c2 : ¬ h 58 a = h 58 b
    · rw [if_pos c2] at q; omega
    · rw [if_neg c2] at q
      by_cases c3 : ∃ x y q : Nat, i = nI x ∧ j = nI y ∧ n = nI q ∧ x + q ≤ shN h a ∧ y + q ≤ shN h b
      · obtain ⟨x, y, w, e1, e2, e3, f1, f2⟩ := c3
        exact ⟨a, b, x, y, w, ha, hb, rfl, rfl, e1, e2, e3, fun e => c1 (Or.inl e), Decidable.byContradiction c2, f1, f2⟩
      · rw [if_neg c3] at q; omega
/-- bodies put on the trace -/
def appT (f : Nat → Int32) (n : Nat) : List Int32 → (Nat → Int32)
  | [] => f
  | b :: l => appT (upd f n b) (n + 1) l
theorem appT_app {f : Nat → Int32} : ∀ {n : Nat} {a b : List Int32}, appT f n (a ++ b) = appT (appT f n a) (n + a.length) b
  | n, [], b => rfl
  | n, x :: a, b => by
    show appT (upd f n x) (n + 1) (a ++ b) = _
    rw [appT_app]
    show appT (appT (upd f n x) (n + 1) a) (n + 1 + a.length) b = appT (appT (upd f n x) (n + 1) a) (n + (a.length + 1)) b
    rw [Nat.add_assoc, Nat.add_comm 1]
def voC (k t x : Int32) : Int32 := if k = 1 then x + t - 4 else if k = 4 then (x + t - 4) * 3 else if k = 6 then 9 else x + t
def voCb (k : Int32) : List Int32 := if k = 1 then [20, 10] else if k = 4 then [50, 20, 10] else if k = 6 then [70] else [10]
def voP (k t x : Int32) : Int32 := voC k t x * 2
def voPb (k : Int32) : List Int32 := 11 :: voCb k
def voH (k m t x : Int32) : Int32 := if k = 2 then -(voP k t x) else if k = 5 then -(voP k t (x + 1)) else if k = 6 then voP k t x + m else voP k t x
def voHb (k : Int32) : List Int32 := if k = 2 then 30 :: voPb k else if k = 5 then 60 :: 30 :: voPb k else if k = 6 then 71 :: voPb k else voPb k
def voL (k m t x : Int32) : Int32 := if k = 3 then voH k m t (x / 2) - m else if k = 4 then (voH k m t x - m) ^^^ t else voH k m t x - m
def voLb (k : Int32) : List Int32 := if k = 3 then 40 :: 12 :: voHb k else if k = 4 then 51 :: 12 :: voHb k else 12 :: voHb k
def voRp (m t : Int32) : Prop := m - t = 0
end SPEC13
