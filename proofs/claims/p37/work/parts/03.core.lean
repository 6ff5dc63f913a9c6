section CORE
/-- the fixed shape of all cells that the two constructors make: kind (0 a row of ints, 1 an object, 2 a row of references), number of its type or class, size, references by place -/
abbrev sk_E : Type := Nat × Nat × Nat × List (Option Nat)
def sk_T : List sk_E := [(1, 6, 7, [some 1, some 2, some 3, some 4, some 5, some 6]), (1, 2, 15, [some 18, some 19, some 20, some 21, some 22, some 23]), (1, 2, 15, [some 36, some 37, some 38, some 39, some 40, some 41]), (1, 3, 6, [some 15, none, some 16]), (1, 5, 6, [some 17]), (2, 3, 4, [some 7, some 8, some 9, some 10]), (0, 0, 7, []), (1, 4, 3, [some 11]), (1, 4, 3, [some 12]), (1, 4, 3, [some 13]), (1, 4, 3, [some 14]), (0, 0, 24, []), (0, 0, 24, []), (0, 0, 24, []), (0, 0, 24, []), (0, 0, 60, []), (0, 0, 60, []), (0, 0, 30, []), (0, 0, 4, []), (0, 0, 4, []), (2, 1, 6, [some 24, some 25, some 26, some 27, some 28, some 29]), (2, 2, 2, [some 30, some 31]), (0, 0, 60, []), (0, 0, 24, []), (1, 0, 3, []), (1, 0, 3, []), (1, 0, 3, []), (1, 0, 3, []), (1, 0, 3, []), (1, 0, 3, []), (1, 1, 4, [some 32, some 34]), (1, 1, 4, [some 33, some 35]), (0, 0, 60, []), (0, 0, 60, []), (0, 0, 60, []), (0, 0, 60, []), (0, 0, 4, []), (0, 0, 4, []), (2, 1, 6, [some 42, some 43, some 44, some 45, some 46, some 47]), (2, 2, 2, [some 48, some 49]), (0, 0, 60, []), (0, 0, 24, []), (1, 0, 3, []), (1, 0, 3, []), (1, 0, 3, []), (1, 0, 3, []), (1, 0, 3, []), (1, 0, 3, []), (1, 1, 4, [some 50, some 52]), (1, 1, 4, [some 51, some 53]), (0, 0, 60, []), (0, 0, 60, []), (0, 0, 60, []), (0, 0, 60, []), (1, 7, 20, [some 55, some 56, none, some 57, some 58, some 59, some 60, some 61, some 62, some 63, some 64, none, none, none, none, none, some 65, some 66]), (0, 0, 361, []), (0, 0, 361, []), (0, 0, 7, []), (0, 0, 4, []), (0, 0, 4, []), (0, 0, 96, []), (0, 0, 60, []), (0, 0, 60, []), (0, 0, 3, []), (0, 0, 60, []), (0, 0, 24, []), (0, 0, 30, [])]
abbrev sk_M : Type := Nat → Nat → Int32
/-- class numbers, field places, row classes, addresses by place, the script's length, the script -/
abbrev sk_V : Type := (Nat → ClassId) × (Nat → Nat → Nat) × (Nat → ClassId) × (Nat → Nat) × Nat × (Nat → Int32)
abbrev sk_G (E : sk_V) : va_G := (E.1, E.2.1)
abbrev sk_t (E : sk_V) : Nat → ClassId := E.2.2.1
abbrev sk_a (E : sk_V) : Nat → Nat := E.2.2.2.1
def sk_e (k : Nat) : sk_E := sk_T.getD k (0, 0, 0, [])
def sk_v (E : sk_V) (v : Value) : Value := match v with
  | .ref k => .ref (sk_a E k)
  | v => v
def sk_rf (rs : List (Option Nat)) (i : Nat) : Option Nat := rs.getD i none
/-- what an object's field holds, by places -/
def sk_g (h : sk_M) (k : Nat) (rs : List (Option Nat)) (i : Nat) : Value := match sk_rf rs i with
  | some r => .ref r
  | none => .int (h k i)
def sk_c (E : sk_V) (h : sk_M) (k : Nat) (e : sk_E) : va_E := match e with
  | (0, t, n, _) => .inl (sk_t E t, n, .inl (h k))
  | (1, ci, n, rs) => .inr (ci, (List.range n).map (fun i => sk_v E (sk_g h k rs i)))
  | (_, t, n, rs) => .inl (sk_t E t, n, .inr (.inr (.inr (.inr (fun i => (sk_rf rs i).map (sk_a E))))))
def sk_W (E : sk_V) (h : sk_M) : va_W := (List.range 67).map (fun k => (sk_a E k, sk_c E h k (sk_e k)))
theorem sk_W_at {E : sk_V} {h : sk_M} {k : Nat} (hk : k < 67) : (sk_W E h)[k]? = some (sk_a E k, sk_c E h k (sk_e k)) := by
  simp [sk_W, hk]
/-- a row anew -/
def sk_r (h : sk_M) (k : Nat) (f : Nat → Int32) : sk_M := fun a => if a = k then f else h a
theorem sk_r_eq (h : sk_M) (k : Nat) (f : Nat → Int32) : sk_r h k f k = f := if_pos rfl
theorem sk_r_ne (h : sk_M) {k a : Nat} (f : Nat → Int32) (n : a ≠ k) : sk_r h k f a = h a := if_neg n
/-- a cell anew -/
def sk_u (h : sk_M) (k i : Nat) (x : Int32) : sk_M := sk_r h k (upd (h k) i x)
theorem sk_c_ne {E : sk_V} {h : sk_M} {k j : Nat} (f : Nat → Int32) (n : j ≠ k) (e : sk_E) : sk_c E (sk_r h k f) j e = sk_c E h j e := by
  have h1 : sk_r h k f j = h j := sk_r_ne h f n
  unfold sk_c
  split <;> simp only [h1, sk_g]
theorem sk_W_set {E : sk_V} {h : sk_M} {k : Nat} {f : Nat → Int32} {c : va_E} (hc : sk_c E (sk_r h k f) k (sk_e k) = c) : (sk_W E h).set k (sk_a E k, c) = sk_W E (sk_r h k f) := by
  apply List.ext_getElem?
  intro j
  rw [List.getElem?_set]
  by_cases hj : k = j
  · subst hj
    rw [if_pos rfl]
    by_cases hk : k < 67
    · rw [sk_W_at hk, if_pos (by simp [sk_W, hk]), hc]
    · rw [if_neg (by simp [sk_W, hk])]
      simp [sk_W, hk]
  · rw [if_neg hj]
    by_cases hk : j < 67
    · rw [sk_W_at hk, sk_W_at hk, sk_c_ne f (fun e => hj e.symm)]
    · simp [sk_W, hk]
theorem sk_W_row {E : sk_V} {h : sk_M} {k t n : Nat} {rs : List (Option Nat)} {f : Nat → Int32} (he : sk_e k = (0, t, n, rs)) : (sk_W E h).set k (sk_a E k, .inl (sk_t E t, n, .inl f)) = sk_W E (sk_r h k f) := by
  refine sk_W_set ?_
  rw [he]
  show (Sum.inl _ : va_E) = _
  rw [sk_r_eq]
theorem sk_W_obj {E : sk_V} {h : sk_M} {k ci n i : Nat} {rs : List (Option Nat)} {x : Int32} (he : sk_e k = (1, ci, n, rs)) (hi : sk_rf rs i = none) : (sk_W E h).set k (sk_a E k, .inr (ci, ((List.range n).map (fun i => sk_v E (sk_g h k rs i))).set i (.int x))) = sk_W E (sk_u h k i x) := by
  refine sk_W_set ?_
  rw [he]
  refine congrArg (fun q => (Sum.inr (ci, q) : va_E)) ?_
  apply List.ext_getElem?
  intro j
  rw [List.getElem?_set]
  by_cases hj : i = j
  · subst hj
    rw [if_pos rfl]
    by_cases hn : i < n
    · rw [if_pos (by simp [hn])]
      simp [hn, sk_g, hi, sk_r_eq, upd, sk_v]
    · rw [if_neg (by simp [hn])]
      simp [hn]
  · rw [if_neg hj]
    by_cases hn : j < n
    · have h1 : sk_g (sk_r h k (upd (h k) i x)) k rs j = sk_g h k rs j := by
        unfold sk_g
        rw [sk_r_eq]
        have : upd (h k) i x j = h k j := if_neg (fun e => hj (Eq.symm e))
        rw [this]
      simp [hn, h1]
    · simp [hn]
theorem sk_get {E : sk_V} {h : sk_M} {k n i : Nat} {rs : List (Option Nat)} (hi : i < n) : ((List.range n).map (fun i => sk_v E (sk_g h k rs i)))[i]? = some (sk_v E (sk_g h k rs i)) := by
  simp [hi]
abbrev sk_y (E : sk_V) : List (ClassId × FieldType) := [(sk_t E 0, .int), (sk_t E 1, .object "PromisedFish$Boat"), (sk_t E 2, .object "PromisedFish$Law"), (sk_t E 3, .object "PromisedFish$Sheet")]
def sk_A (E : sk_V) : Nat → Prop := fun q => ∃ k, k < 67 ∧ q = sk_a E k
end CORE
