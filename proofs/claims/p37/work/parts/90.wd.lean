section WD
def TLw (T : Nat → ClassId) (a : Nat → Nat) : va_W := [((a 0), .inr (6, [.ref (a 1), .ref (a 2), .ref (a 3), .ref (a 4), .ref (a 5), .ref (a 6), .int 0])),
  ((a 1), .inr (2, [.ref (a 18), .ref (a 19), .ref (a 20), .ref (a 21), .ref (a 22), .ref (a 23), .int 0, .int 0, .int 0, .int 0, .int 0, .int 20, .int 0, .int 0, .int 1])),
  ((a 18), .inl (T 0, 4, .inl (fun _ => 0))),
  ((a 19), .inl (T 0, 4, .inl (upd (upd (upd (upd (fun _ => 0) 0 2) 1 2) 2 2) 3 2))),
  ((a 20), .inl (T 1, 6, .inr (.inr (.inr (.inr (va_up (va_up (va_up (va_up (va_up (va_up (fun _ => none) 0 (some (a 24))) 1 (some (a 25))) 2 (some (a 26))) 3 (some (a 27))) 4 (some (a 28))) 5 (some (a 29)))))))),
  ((a 21), .inl (T 2, 2, .inr (.inr (.inr (.inr (va_up (va_up (fun _ => none) 0 (some (a 30))) 1 (some (a 31)))))))),
  ((a 22), .inl (T 0, 60, .inl (fun _ => 0))),
  ((a 23), .inl (T 0, 24, .inl (fun _ => 0))),
  ((a 24), .inr (0, [.int 0, .int 0, .int 0])),
  ((a 25), .inr (0, [.int 0, .int 0, .int 0])),
  ((a 26), .inr (0, [.int 0, .int 0, .int 0])),
  ((a 27), .inr (0, [.int 0, .int 0, .int 0])),
  ((a 28), .inr (0, [.int 0, .int 0, .int 0])),
  ((a 29), .inr (0, [.int 0, .int 0, .int 0])),
  ((a 30), .inr (1, [.ref (a 32), .ref (a 34), .int 0, .int 0])),
  ((a 32), .inl (T 0, 60, .inl (fun _ => 0))),
  ((a 34), .inl (T 0, 60, .inl (fun _ => 0))),
  ((a 31), .inr (1, [.ref (a 33), .ref (a 35), .int 0, .int 0])),
  ((a 33), .inl (T 0, 60, .inl (fun _ => 0))),
  ((a 35), .inl (T 0, 60, .inl (fun _ => 0))),
  ((a 2), .inr (2, [.ref (a 36), .ref (a 37), .ref (a 38), .ref (a 39), .ref (a 40), .ref (a 41), .int 0, .int 0, .int 0, .int 0, .int 0, .int 20, .int 0, .int 0, .int 1])),
  ((a 36), .inl (T 0, 4, .inl (fun _ => 0))),
  ((a 37), .inl (T 0, 4, .inl (upd (upd (upd (upd (fun _ => 0) 0 2) 1 2) 2 2) 3 2))),
  ((a 38), .inl (T 1, 6, .inr (.inr (.inr (.inr (va_up (va_up (va_up (va_up (va_up (va_up (fun _ => none) 0 (some (a 42))) 1 (some (a 43))) 2 (some (a 44))) 3 (some (a 45))) 4 (some (a 46))) 5 (some (a 47)))))))),
  ((a 39), .inl (T 2, 2, .inr (.inr (.inr (.inr (va_up (va_up (fun _ => none) 0 (some (a 48))) 1 (some (a 49)))))))),
  ((a 40), .inl (T 0, 60, .inl (fun _ => 0))),
  ((a 41), .inl (T 0, 24, .inl (fun _ => 0))),
  ((a 42), .inr (0, [.int 0, .int 0, .int 0])),
  ((a 43), .inr (0, [.int 0, .int 0, .int 0])),
  ((a 44), .inr (0, [.int 0, .int 0, .int 0])),
  ((a 45), .inr (0, [.int 0, .int 0, .int 0])),
  ((a 46), .inr (0, [.int 0, .int 0, .int 0])),
  ((a 47), .inr (0, [.int 0, .int 0, .int 0])),
  ((a 48), .inr (1, [.ref (a 50), .ref (a 52), .int 0, .int 0])),
  ((a 50), .inl (T 0, 60, .inl (fun _ => 0))),
  ((a 52), .inl (T 0, 60, .inl (fun _ => 0))),
  ((a 49), .inr (1, [.ref (a 51), .ref (a 53), .int 0, .int 0])),
  ((a 51), .inl (T 0, 60, .inl (fun _ => 0))),
  ((a 53), .inl (T 0, 60, .inl (fun _ => 0))),
  ((a 3), .inr (3, [.ref (a 15), .int 0, .ref (a 16), .int 0, .int 0, .int 0])),
  ((a 15), .inl (T 0, 60, .inl (fun _ => 0))),
  ((a 16), .inl (T 0, 60, .inl (fun _ => 0))),
  ((a 4), .inr (5, [.ref (a 17), .int 0, .int 0, .int 0, .int 0, .int 0])),
  ((a 17), .inl (T 0, 30, .inl (fun _ => 0))),
  ((a 5), .inl (T 3, 4, .inr (.inr (.inr (.inr (va_up (va_up (va_up (va_up (fun _ => none) 0 (some (a 7))) 1 (some (a 8))) 2 (some (a 9))) 3 (some (a 10)))))))),
  ((a 6), .inl (T 0, 7, .inl (fun _ => 0))),
  ((a 7), .inr (4, [.ref (a 11), .int 0, .int 0])),
  ((a 11), .inl (T 0, 24, .inl (fun _ => 0))),
  ((a 8), .inr (4, [.ref (a 12), .int 0, .int 0])),
  ((a 12), .inl (T 0, 24, .inl (fun _ => 0))),
  ((a 9), .inr (4, [.ref (a 13), .int 0, .int 0])),
  ((a 13), .inl (T 0, 24, .inl (fun _ => 0))),
  ((a 10), .inr (4, [.ref (a 14), .int 0, .int 0])),
  ((a 14), .inl (T 0, 24, .inl (fun _ => 0))),
  ((a 54), .inr (7, [.ref (a 55), .ref (a 56), .int 0, .ref (a 57), .ref (a 58), .ref (a 59), .ref (a 60), .ref (a 61), .ref (a 62), .ref (a 63), .ref (a 64), .int 0, .int 0, .int 0, .int 0, .int 0, .ref (a 65), .ref (a 66), .int 0, .int 0])),
  ((a 55), .inl (T 0, 361, .inl (upd (upd (upd (upd (upd (upd (fun _ => 0) 1 1) 6 20) 13 2) 14 2) 15 2) 16 2))),
  ((a 56), .inl (T 0, 361, .inl (fun _ => 0))),
  ((a 57), .inl (T 0, 7, .inl (fun _ => 0))),
  ((a 58), .inl (T 0, 4, .inl (fun _ => 0))),
  ((a 59), .inl (T 0, 4, .inl (fun _ => 0))),
  ((a 60), .inl (T 0, 96, .inl (fun _ => 0))),
  ((a 61), .inl (T 0, 60, .inl (fun _ => 0))),
  ((a 62), .inl (T 0, 60, .inl (fun _ => 0))),
  ((a 63), .inl (T 0, 3, .inl (fun _ => 0))),
  ((a 64), .inl (T 0, 60, .inl (fun _ => 0))),
  ((a 65), .inl (T 0, 24, .inl (fun _ => 0))),
  ((a 66), .inl (T 0, 30, .inl (fun _ => 0)))]
def posL : List Nat := [0, 1, 20, 39, 42, 44, 45, 46, 48, 50, 52, 47, 49, 51, 53, 40, 41, 43, 2, 3, 4, 5, 6, 7, 8, 9, 10, 11, 12, 13, 14, 17, 15, 18, 16, 19, 21, 22, 23, 24, 25, 26, 27, 28, 29, 30, 31, 32, 33, 36, 34, 37, 35, 38, 54, 55, 56, 57, 58, 59, 60, 61, 62, 63, 64, 65, 66]
def h00 : sk_M := fun k => match k with
  | 1 => upd (upd (fun _ => 0) 11 20) 14 1
  | 2 => upd (upd (fun _ => 0) 11 20) 14 1
  | 19 => upd (upd (upd (upd (fun _ => 0) 0 2) 1 2) 2 2) 3 2
  | 37 => upd (upd (upd (upd (fun _ => 0) 0 2) 1 2) 2 2) 3 2
  | 55 => upd (upd (upd (upd (upd (upd (fun _ => 0) 1 1) 6 20) 13 2) 14 2) 15 2) 16 2
  | _ => fun _ => 0
theorem rfn_2 {f : Nat → Nat} {x0 x1 : Nat} : (va_up (va_up (fun _ => none) 0 (some (f x0))) 1 (some (f x1))) = (fun i => (sk_rf [some x0, some x1] i).map f) := by
  funext i
  match i with
  | 0 => rfl
  | 1 => rfl
  | i + 2 =>
    show _ = none
    unfold va_up
    rw [if_neg (by omega), if_neg (by omega)]
theorem rfn_4 {f : Nat → Nat} {x0 x1 x2 x3 : Nat} : (va_up (va_up (va_up (va_up (fun _ => none) 0 (some (f x0))) 1 (some (f x1))) 2 (some (f x2))) 3 (some (f x3))) = (fun i => (sk_rf [some x0, some x1, some x2, some x3] i).map f) := by
  funext i
  match i with
  | 0 => rfl
  | 1 => rfl
  | 2 => rfl
  | 3 => rfl
  | i + 4 =>
    show _ = none
    unfold va_up
    rw [if_neg (by omega), if_neg (by omega), if_neg (by omega), if_neg (by omega)]
theorem rfn_6 {f : Nat → Nat} {x0 x1 x2 x3 x4 x5 : Nat} : (va_up (va_up (va_up (va_up (va_up (va_up (fun _ => none) 0 (some (f x0))) 1 (some (f x1))) 2 (some (f x2))) 3 (some (f x3))) 4 (some (f x4))) 5 (some (f x5))) = (fun i => (sk_rf [some x0, some x1, some x2, some x3, some x4, some x5] i).map f) := by
  funext i
  match i with
  | 0 => rfl
  | 1 => rfl
  | 2 => rfl
  | 3 => rfl
  | 4 => rfl
  | 5 => rfl
  | i + 6 =>
    show _ = none
    unfold va_up
    rw [if_neg (by omega), if_neg (by omega), if_neg (by omega), if_neg (by omega), if_neg (by omega), if_neg (by omega)]
section
variable {G : va_G} {T : Nat → ClassId} {a : Nat → Nat} {L : Nat} {xs : Nat → Int32}
abbrev E00 (G : va_G) (T : Nat → ClassId) (a : Nat → Nat) (L : Nat) (xs : Nat → Int32) : sk_V := (G.1, G.2, T, a, L, xs)
set_option maxRecDepth 100000 in
set_option maxHeartbeats 4000000 in
theorem st_key : ∀ k, k < 67 → (TLw T a)[posL.getD k 0]? = some (sk_a (E00 G T a L xs) k, sk_c (E00 G T a L xs) h00 k (sk_e k)) := by
  intro k hk
  match k, hk with
  | 0, _ => rfl
  | 1, _ => rfl
  | 2, _ => rfl
  | 3, _ => rfl
  | 4, _ => rfl
  | 5, _ =>
    show some (a 5, (Sum.inl (T 3, 4, .inr (.inr (.inr (.inr (va_up (va_up (va_up (va_up (fun _ => none) 0 (some (a 7))) 1 (some (a 8))) 2 (some (a 9))) 3 (some (a 10))))))) : va_E)) = some (a 5, (Sum.inl (T 3, 4, .inr (.inr (.inr (.inr (fun i => (sk_rf [some 7, some 8, some 9, some 10] i).map a))))) : va_E))
    rw [rfn_4]
  | 6, _ => rfl
  | 7, _ => rfl
  | 8, _ => rfl
  | 9, _ => rfl
  | 10, _ => rfl
  | 11, _ => rfl
  | 12, _ => rfl
  | 13, _ => rfl
  | 14, _ => rfl
  | 15, _ => rfl
  | 16, _ => rfl
  | 17, _ => rfl
  | 18, _ => rfl
  | 19, _ => rfl
  | 20, _ =>
    show some (a 20, (Sum.inl (T 1, 6, .inr (.inr (.inr (.inr (va_up (va_up (va_up (va_up (va_up (va_up (fun _ => none) 0 (some (a 24))) 1 (some (a 25))) 2 (some (a 26))) 3 (some (a 27))) 4 (some (a 28))) 5 (some (a 29))))))) : va_E)) = some (a 20, (Sum.inl (T 1, 6, .inr (.inr (.inr (.inr (fun i => (sk_rf [some 24, some 25, some 26, some 27, some 28, some 29] i).map a))))) : va_E))
    rw [rfn_6]
  | 21, _ =>
    show some (a 21, (Sum.inl (T 2, 2, .inr (.inr (.inr (.inr (va_up (va_up (fun _ => none) 0 (some (a 30))) 1 (some (a 31))))))) : va_E)) = some (a 21, (Sum.inl (T 2, 2, .inr (.inr (.inr (.inr (fun i => (sk_rf [some 30, some 31] i).map a))))) : va_E))
    rw [rfn_2]
  | 22, _ => rfl
  | 23, _ => rfl
  | 24, _ => rfl
  | 25, _ => rfl
  | 26, _ => rfl
  | 27, _ => rfl
  | 28, _ => rfl
  | 29, _ => rfl
  | 30, _ => rfl
  | 31, _ => rfl
  | 32, _ => rfl
  | 33, _ => rfl
  | 34, _ => rfl
  | 35, _ => rfl
  | 36, _ => rfl
  | 37, _ => rfl
  | 38, _ =>
    show some (a 38, (Sum.inl (T 1, 6, .inr (.inr (.inr (.inr (va_up (va_up (va_up (va_up (va_up (va_up (fun _ => none) 0 (some (a 42))) 1 (some (a 43))) 2 (some (a 44))) 3 (some (a 45))) 4 (some (a 46))) 5 (some (a 47))))))) : va_E)) = some (a 38, (Sum.inl (T 1, 6, .inr (.inr (.inr (.inr (fun i => (sk_rf [some 42, some 43, some 44, some 45, some 46, some 47] i).map a))))) : va_E))
    rw [rfn_6]
  | 39, _ =>
    show some (a 39, (Sum.inl (T 2, 2, .inr (.inr (.inr (.inr (va_up (va_up (fun _ => none) 0 (some (a 48))) 1 (some (a 49))))))) : va_E)) = some (a 39, (Sum.inl (T 2, 2, .inr (.inr (.inr (.inr (fun i => (sk_rf [some 48, some 49] i).map a))))) : va_E))
    rw [rfn_2]
  | 40, _ => rfl
  | 41, _ => rfl
  | 42, _ => rfl
  | 43, _ => rfl
  | 44, _ => rfl
  | 45, _ => rfl
  | 46, _ => rfl
  | 47, _ => rfl
  | 48, _ => rfl
  | 49, _ => rfl
  | 50, _ => rfl
  | 51, _ => rfl
  | 52, _ => rfl
  | 53, _ => rfl
  | 54, _ => rfl
  | 55, _ => rfl
  | 56, _ => rfl
  | 57, _ => rfl
  | 58, _ => rfl
  | 59, _ => rfl
  | 60, _ => rfl
  | 61, _ => rfl
  | 62, _ => rfl
  | 63, _ => rfl
  | 64, _ => rfl
  | 65, _ => rfl
  | 66, _ => rfl
  | k + 67, hk => omega
theorem st_P {H : Heap} (hP : va_P G vwCl (TLw T a) H) : va_P (sk_G (E00 G T a L xs)) vwCl (sk_W (E00 G T a L xs) h00) H := by
  intro k q hq
  have hk : k < 67 := by
    have := (List.getElem?_eq_some_iff.mp hq).1
    simpa [sk_W] using this
  rw [sk_W_at hk] at hq
  cases hq
  exact hP _ _ (st_key k hk)
theorem st_D {A : Nat → Prop} (hD : va_D A (TLw T a)) : va_D A (sk_W (E00 G T a L xs) h00) := by
  refine hD.sub posL (by decide) ?_
  apply List.ext_getElem?
  intro k
  rw [List.getElem?_map, List.getElem?_map]
  by_cases hk : k < 67
  · rw [sk_W_at hk]
    have e : posL[k]? = some (posL.getD k 0) := by
      have hl : k < posL.length := hk
      rw [List.getD_eq_getElem?_getD, List.getElem?_eq_getElem hl]
      rfl
    rw [e]
    show some ((TLw T a)[posL.getD k 0]?) = _
    rw [st_key (G := G) (L := L) (xs := xs) k hk]
    rfl
  · rw [List.getElem?_eq_none (show posL.length ≤ k from Nat.not_lt.mp hk), List.getElem?_eq_none (show (sk_W (E00 G T a L xs) h00).length ≤ k by simpa [sk_W] using Nat.not_lt.mp hk)]
    rfl
end
theorem h00_inv : Inv0 h00 := by
  have hl : ∀ u, u < 2 → laN (h00 55) u = 0 := by decide +kernel
  have hi : ∀ u, u < 2 → lawI (h00 55) u := by
    intro u hu
    refine ⟨?_, ?_⟩
    · rw [hl u hu]
      have : ∀ u, u < 2 → h00 55 (119 + 121 * u) = nI 0 := by decide +kernel
      exact this u hu
    · rw [hl u hu]
      exact ⟨by decide, fun k hk => absurd hk (Nat.not_lt_zero _), fun z => absurd z (Nat.lt_irrefl _)⟩
  have hs : ∀ u, u < 2 → lawS (h00 55) u := fun u hu k hk => by
    rw [hl u hu] at hk
    exact absurd hk (Nat.not_lt_zero _)
  have hc : ∀ (lo co : Nat), h00 lo 3 = 0 → ∀ u, u < 2 → lawC h00 lo co (h00 55) u := fun lo co h3 u hu => by
    refine ⟨?_, fun z => ?_, fun k hk => ?_⟩
    · rw [hl u hu, h3]; rfl
    · rw [hl u hu] at z; exact absurd z (Nat.lt_irrefl _)
    · rw [hl u hu] at hk; exact absurd hk (Nat.not_lt_zero _)
  have hN : ∀ (x : Int32) (n : Nat), n < 2147483647 → 0 ≤ x → x ≤ nI n → inN x (n + 1) := fun x n hn h1 h2 => (inN_le (by rw [nI_toInt (by omega)]; rfl)).mp ⟨h1, h2⟩
  have g9 : ∀ j, j < 4 → 0 ≤ h00 55 (9 + j) ∧ h00 55 (9 + j) ≤ 99 := by decide +kernel
  have g13 : ∀ j, j < 4 → 0 ≤ h00 55 (13 + j) ∧ h00 55 (13 + j) ≤ 9 := by decide +kernel
  have gb : ∀ j, j < 6 → h00 55 (17 + 3 * j) = 0 ∧ h00 55 (17 + 3 * j + 1) = 0 ∧ h00 55 (17 + 3 * j + 2) = 0 := by decide +kernel
  have hR : ∀ p, p < 119 → h00 (clQ 1 18 p) (ixQ p) = h00 55 p := by decide +kernel
  refine ⟨⟨⟨hR, hc _ _ (by decide) 0 (by decide), hc _ _ (by decide) 1 (by decide)⟩, ⟨⟨⟨by decide +kernel, by decide +kernel⟩, hi 0 (by decide), hi 1 (by decide), hs 0 (by decide), hs 1 (by decide)⟩, ⟨⟨0, by decide, by decide +kernel⟩, ⟨0, by decide, by decide +kernel⟩, ⟨0, by decide, by decide +kernel⟩⟩, fun j hj => hN _ 99 (by decide) (g9 j hj).1 (g9 j hj).2, fun j hj => hN _ 9 (by decide) (g13 j hj).1 (g13 j hj).2, fun j hj => ?_, ⟨0, by decide, by decide +kernel⟩, by decide +kernel, ⟨0, by decide, by decide +kernel⟩, ⟨20, by decide, by decide +kernel⟩⟩, fun s hs => ?_, ⟨0, by decide, by decide +kernel, by decide +kernel, fun k hk => absurd hk (Nat.not_lt_zero _)⟩, by decide +kernel, fun z => absurd (by decide +kernel) z⟩, fun j hj => ?_, fun k hk => ?_⟩
  · obtain ⟨e1, e2, e3⟩ := gb j hj
    rw [e1, e2, e3]
    exact ⟨⟨0, by decide, rfl⟩, ⟨0, by decide, rfl⟩, ⟨0, by decide, rfl⟩⟩
  · have z : ∀ c, c = 7 + s ∨ c = 11 + s ∨ c = 58 ∨ c = 59 ∨ c = 60 → h00 c = fun _ => 0 := by
      intro c hc
      rcases (by omega : s = 0 ∨ s = 1 ∨ s = 2 ∨ s = 3) with rfl | rfl | rfl | rfl <;> rcases hc with rfl | rfl | rfl | rfl | rfl <;> rfl
    rw [z 58 (by omega), z 59 (by omega), z 60 (by omega), z (7 + s) (by omega), z (11 + s) (by omega)]
    exact ⟨Or.inl rfl, rfl, ⟨0, by decide, rfl, rfl⟩, fun k hk => ⟨0, ptV_0.symm, loV_0.symm⟩⟩
  · rfl
  · exact ⟨rfl, rfl⟩
end WD
