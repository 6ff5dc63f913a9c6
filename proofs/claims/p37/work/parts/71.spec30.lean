section SPEC30
abbrev cl (x : Int32) : Nat := x.toNatClampNeg
abbrev aF : Type := (Nat → Int32) × Int32
noncomputable def boatF (g : Nat → Int32) (v : Int32) : aF := cif (inN v 70) (cif (boN g = 6) (g, erI 4) (upd (upd (upd (upd g 2 (g 2 + 1)) (17 + 3 * boN g) (v / 10)) (17 + 3 * boN g + 1) (v - v / 10 * 10)) (17 + 3 * boN g + 2) 0, nI (boN g))) (g, erI 1)
noncomputable def boatIsF (g : Nat → Int32) (b w : Int32) : aF := cif (inN b (boN g) ∧ inN w 8) (g, isV g (cl b) (cl w)) (g, erI 1)
noncomputable def becomeF (g : Nat → Int32) (b v : Int32) : aF := cif (inN b (boN g) ∧ inN v 70) (upd (upd g (17 + 3 * cl b + 1) (v - v / 10 * 10)) (17 + 3 * cl b) (v / 10), g (17 + 3 * cl b)) (g, erI 1)
noncomputable def asF (g : Nat → Int32) (b k : Int32) : aF := cif (inN b (boN g) ∧ inN k 7) (cif (asV k (g (17 + 3 * cl b))) (g, g (17 + 3 * cl b + 1)) (g, erI 5)) (g, erI 1)
noncomputable def loseF (g : Nat → Int32) (b v : Int32) : aF := cif (inN b (boN g) ∧ inN v 2) (upd g (17 + 3 * cl b + 2) v, g (17 + 3 * cl b + 2)) (g, erI 1)
noncomputable def risesF (g : Nat → Int32) (v : Int32) : aF := cif (inN v 10) (upd g 3 v, g 3) (g, erI 1)
noncomputable def priceF (g : Nat → Int32) (f v : Int32) : aF := cif (inN f 4 ∧ inN v 10) (upd g (13 + cl f) v, g (13 + cl f)) (g, erI 1)
noncomputable def sellF (g : Nat → Int32) (f n : Int32) : aF := cif (inN f 4 ∧ inN n 100) (cif (g (9 + cl f) + n ≤ 99) (sellR g (cl f) n, n * coinsG g (cl f) (g (9 + cl f))) (g, erI 3)) (g, erI 1)
noncomputable def feedF (g : Nat → Int32) (w : Int64) (x : Int32) : aF := cif (1 ≤ x ∧ x ≤ 8) (cif (60 < cl (g 7) + cl x) (g, erI 4) (fdR g w (cl (g 7)) (cl x), nI (cl (g 7) + cl x))) (g, erI 1)
noncomputable def textF (g : Nat → Int32) (x : Int32) : aF := cif (inN x 2) (cif ((txP g (cl (g 7)) (cl x)).1 = true ∧ (txP g (cl (g 7)) (cl x)).2.1 = cl (g 7)) (txR g (cl x) (txP g (cl (g 7)) (cl x)).2.2, 1) (upd g 7 0, -10 - nI (txP g (cl (g 7)) (cl x)).2.1)) (g, erI 1)
noncomputable def untellF (g : Nat → Int32) (x : Int32) : aF := cif (inN x 2) (upd g (119 + 121 * cl x) 0, if g (119 + 121 * cl x) ≤ 0 then 0 else 1) (g, erI 1)
noncomputable def lawF (g : Nat → Int32) (x a b c : Int32) : aF := cif (inN x 2) (g, gvV g (cl x) a b c) (g, erI 1)
noncomputable def tallyF (g : Nat → Int32) : aF := cif (g 0 = 9999) (g, erI 3) (talR g, allF g 4)
noncomputable def looseF (g : Nat → Int32) (x : Int32) : aF := cif (1 ≤ x ∧ x ≤ 30) (cif (g 0 + x ≤ 9999) (looR g (cl x), looA g (cl x)) (g, erI 3)) (g, erI 1)
def seedF (g : Nat → Int32) (v : Int32) : aF := (upd g 1 v, g 1)
noncomputable def catchesF (g : Nat → Int32) (f : Int32) : aF := cif (inN f 4) (g, catchG g (nI (cl f)) (g (9 + cl f)) (g 3) (g 0)) (g, erI 1)
noncomputable def safeF (g : Nat → Int32) (f : Int32) : aF := cif (inN f 4) (g, nI (safeN g f 99)) (g, erI 1)
noncomputable def bestF (g : Nat → Int32) (f w : Int32) : aF := cif (inN f 4 ∧ inN w 2) (g, if w = 0 then (bstG g (cl f) 100).1 else (bstG g (cl f) 100).2) (g, erI 1)
noncomputable def agreesF (g : Nat → Int32) (f w : Int32) : aF := cif (inN f 4 ∧ inN w 2) (g, if w = 0 then nI (cntD (agP g f) 100) else if 0 ≤ lstN (agP g f) 100 then lstN (agP g f) 100 else erI 2) (g, erI 1)
noncomputable def needsF (g : Nat → Int32) (w : Int32) : aF := cif (inN w 2) (g, if ndN g (lndX g) (2 ^ boN g) = 64 then erI 2 else if w = 0 then nI (pcN (ndN g (lndX g) (2 ^ boN g))) else nI (ndN g (lndX g) (2 ^ boN g))) (g, erI 1)
noncomputable def soonestF (g : Nat → Int32) (f n : Int32) : aF := cif (inN f 4 ∧ inN n 100) (g, if soF (soP g f n (cl (g 0))) 61 0 = 61 then erI 2 else nI (soF (soP g f n (cl (g 0))) 61 0)) (g, erI 1)
noncomputable def oddsF (g : Nat → Int32) (f n p : Int32) : aF := cif (inN f 4 ∧ inN n 100 ∧ inN p 2) (g, if p = 0 then nI (cntN (enP g f n) 10 / Nat.gcd (cntN (enP g f n) 10) 10) else nI (10 / Nat.gcd (cntN (enP g f n) 10) 10)) (g, erI 1)
noncomputable def meanF (g : Nat → Int32) (f p : Int32) : aF := cif (inN f 4 ∧ inN p 2) (g, if p = 0 then nI (meanN g (cl f) / Nat.gcd (meanN g (cl f)) 10) else nI (10 / Nat.gcd (meanN g (cl f)) 10)) (g, erI 1)
noncomputable def tellF (g : Nat → Int32) (v : Int32) : aF := cif (cl (g 8) = 24) (g, erI 4) (upd (upd g (95 + cl (g 8)) v) 8 (nI (cl (g 8) + 1)), nI (cl (g 8) + 1))
def checkF (g : Nat → Int32) : aF := (upd g 8 0, chV g (cl (g 8)) (soF (chP g) (cl (g 8)) 0))
/-- what holds of both ways holds of the choice -/
theorem cif_P {α : Type} {c : Prop} {a b : α} (Z : α → Prop) (h1 : c → Z a) (h2 : ¬ c → Z b) : Z (cif c a b) := by
  by_cases q : c
  · rw [cif_t q]; exact h1 q
  · rw [cif_f q]; exact h2 q
theorem upd_cm {f : Nat → Int32} {a b : Nat} {x y : Int32} (h : a ≠ b) : upd (upd f a x) b y = upd (upd f b y) a x := by
  funext k
  by_cases q : k = b
  · rw [q, upd_eq, upd_ne (Ne.symm h), upd_eq]
  · rw [upd_ne q]
    by_cases q2 : k = a
    · rw [q2, upd_eq, upd_eq]
    · rw [upd_ne q2, upd_ne q2, upd_ne q]
theorem clN {n : Nat} (h : n < 2147483648) : cl (nI n) = n := nI_clamp h
theorem km_k {v : Int32} (h : inN v 70) : inN (v / 10) 7 ∧ inN (v - v / 10 * 10) 10 := by
  obtain ⟨n, hn, rfl⟩ := h
  refine ⟨⟨n / 10, by omega, div_nI (b := 10) (by omega) (by decide) (by decide)⟩, ⟨n % 10, by omega, nI_rem (b := 10) (by omega) (by decide) (by decide)⟩⟩
section
variable {g : Nat → Int32}
theorem boatF_G {v : Int32} (H : RG g) : RG (boatF g v).1 := by
  unfold boatF
  refine cif_P (fun z : aF => RG z.1) (fun c => cif_P (fun z : aF => RG z.1) (fun _ => H) (fun c2 => ?_)) (fun _ => H)
  have h6 := H.b.2
  have hk := km_k c
  exact (((H.u2 ⟨boN g + 1, by omega, by rw [H.b.1, nI_1]⟩).uk (by omega) hk.1).um (by omega) hk.2).ul (by omega) ⟨0, by decide, rfl⟩
theorem boatIsF_G {b w : Int32} (H : RG g) : RG (boatIsF g b w).1 := cif_P (fun z : aF => RG z.1) (fun _ => H) (fun _ => H)
theorem becomeF_G {b v : Int32} (H : RG g) : RG (becomeF g b v).1 := by
  refine cif_P (fun z : aF => RG z.1) (fun c => ?_) (fun _ => H)
  obtain ⟨⟨j, hj, rfl⟩, c2⟩ := c
  have h6 := H.b.2
  have hk := km_k c2
  rw [clN (by omega)]
  exact (H.um (by omega) hk.2).uk (by omega) hk.1
theorem asF_G {b w : Int32} (H : RG g) : RG (asF g b w).1 := cif_P (fun z : aF => RG z.1) (fun _ => cif_P (fun z : aF => RG z.1) (fun _ => H) (fun _ => H)) (fun _ => H)
theorem loseF_G {b v : Int32} (H : RG g) : RG (loseF g b v).1 := by
  refine cif_P (fun z : aF => RG z.1) (fun c => ?_) (fun _ => H)
  obtain ⟨⟨j, hj, rfl⟩, c2⟩ := c
  have h6 := H.b.2
  rw [clN (by omega)]
  exact H.ul (by omega) c2
theorem risesF_G {v : Int32} (H : RG g) : RG (risesF g v).1 := cif_P (fun z : aF => RG z.1) (fun c => H.u3 c) (fun _ => H)
theorem priceF_G {f v : Int32} (H : RG g) : RG (priceF g f v).1 := by
  refine cif_P (fun z : aF => RG z.1) (fun c => ?_) (fun _ => H)
  obtain ⟨⟨j, hj, rfl⟩, c2⟩ := c
  rw [clN (by omega)]
  exact H.u13 hj c2
theorem sellF_G {f n : Int32} (H : RG g) : RG (sellF g f n).1 := by
  refine cif_P (fun z : aF => RG z.1) (fun c => cif_P (fun z : aF => RG z.1) (fun c3 => ?_) (fun _ => H)) (fun _ => H)
  obtain ⟨⟨j, hj, rfl⟩, ⟨m, hm, rfl⟩⟩ := c
  rw [clN (by omega)] at c3 ⊢
  exact sell_RG H hj (H.sum hj (by omega) c3)
theorem fdR_G {w : Int64} (H : RG g) : ∀ n tp, g 7 = nI tp → tp + n ≤ 60 → RG (fdR g w tp n)
  | 0, _, _, _ => H
  | n + 1, tp, e, h => ((fdR_G H n tp e (by omega)).utw (by omega) (by omega)).u7 ⟨tp + n + 1, by omega, rfl⟩
theorem feedF_G {w : Int64} {x : Int32} (H : RG g) : RG (feedF g w x).1 := by
  refine cif_P (fun z : aF => RG z.1) (fun c => cif_P (fun z : aF => RG z.1) (fun _ => H) (fun c3 => ?_)) (fun _ => H)
  obtain ⟨tp, ht, e⟩ := H.tp
  rw [e, clN (by omega)] at c3 ⊢
  exact fdR_G H _ tp e (by omega)
theorem tallyF_G (H : RG g) : RG (tallyF g).1 := by
  refine cif_P (fun z : aF => RG z.1) (fun _ => H) (fun c => ?_)
  obtain ⟨d, hd, e⟩ := H.da
  refine talR_RG H ⟨d + 1, ?_, by rw [e, nI_1]⟩
  have : ¬ d = 9999 := fun q => c (by rw [e, q]; rfl)
  omega
theorem sellR_0 {j : Nat} {n : Int32} {h : Nat → Int32} (hj : j < 4) : sellR h j n 0 = h 0 := sellR_no hj (by omega)
theorem drR_0 : drR g 0 = g 0 := by
  unfold drR
  rw [upd_ne (by decide), upd_ne (by decide)]
  unfold drS
  split
  · rw [sellR_0 drF_lt, upd_ne (by decide)]
  · rw [upd_ne (by decide)]
theorem drR_G (H : RG g) : RG (drR g) := by
  unfold drR
  refine RG.u3 (RG.u1 ?_) ⟨_, Nat.mod_lt _ (by decide), rfl⟩
  unfold drS
  have hn : drN g < 30 := Nat.mod_lt _ (by decide)
  split
  · rename_i c
    exact sell_RG H.u1 drF_lt (H.u1.sum drF_lt (by omega) c)
  · exact H.u1
theorem looR_G (H : RG g) : ∀ n d, g 0 = nI d → d + n ≤ 9999 → RG (looR g n) ∧ looR g n 0 = nI (d + n)
  | 0, d, e, _ => ⟨H, e⟩
  | n + 1, d, e, h => by
    obtain ⟨a, b⟩ := looR_G H n d e (by omega)
    refine ⟨talR_RG (drR_G a) ⟨d + n + 1, by omega, by rw [drR_0, b, nI_1]⟩, ?_⟩
    show talR (drR (looR g n)) 0 = _
    unfold talR
    rw [upd_eq, drR_0, b, nI_1]
    rfl
theorem looseF_G {x : Int32} (H : RG g) : RG (looseF g x).1 := by
  refine cif_P (fun z : aF => RG z.1) (fun c => cif_P (fun z : aF => RG z.1) (fun c3 => ?_) (fun _ => H)) (fun _ => H)
  obtain ⟨n, h1, h30, rfl⟩ := rg30 c
  obtain ⟨d, hd, e⟩ := H.da
  rw [clN (by omega)]
  rw [e, nI_add] at c3
  have h2 : nI (d + n) ≤ nI 9999 := c3
  rw [nI_leI (by omega) (by decide)] at h2
  exact (looR_G H n d e h2).1
theorem seedF_G {v : Int32} (H : RG g) : RG (seedF g v).1 := H.u1
theorem catchesF_G {f : Int32} (H : RG g) : RG (catchesF g f).1 := cif_P (fun z : aF => RG z.1) (fun _ => H) (fun _ => H)
theorem safeF_G {f : Int32} (H : RG g) : RG (safeF g f).1 := cif_P (fun z : aF => RG z.1) (fun _ => H) (fun _ => H)
theorem lawF_G {x a b c : Int32} (H : RG g) : RG (lawF g x a b c).1 := cif_P (fun z : aF => RG z.1) (fun _ => H) (fun _ => H)
theorem bestF_G {f w : Int32} (H : RG g) : RG (bestF g f w).1 := cif_P (fun z : aF => RG z.1) (fun _ => H) (fun _ => H)
theorem agreesF_G {f w : Int32} (H : RG g) : RG (agreesF g f w).1 := cif_P (fun z : aF => RG z.1) (fun _ => H) (fun _ => H)
theorem needsF_G {w : Int32} (H : RG g) : RG (needsF g w).1 := cif_P (fun z : aF => RG z.1) (fun _ => H) (fun _ => H)
theorem soonestF_G {f n : Int32} (H : RG g) : RG (soonestF g f n).1 := cif_P (fun z : aF => RG z.1) (fun _ => H) (fun _ => H)
theorem oddsF_G {f n p : Int32} (H : RG g) : RG (oddsF g f n p).1 := cif_P (fun z : aF => RG z.1) (fun _ => H) (fun _ => H)
theorem meanF_G {f p : Int32} (H : RG g) : RG (meanF g f p).1 := cif_P (fun z : aF => RG z.1) (fun _ => H) (fun _ => H)
theorem tellF_G {v : Int32} (H : RG g) : RG (tellF g v).1 := by
  refine cif_P (fun z : aF => RG z.1) (fun _ => H) (fun c => ?_)
  obtain ⟨n, hn, e⟩ := H.wt
  rw [e, clN (by omega)] at c ⊢
  exact (H.utw (by omega) (by omega)).u8 ⟨n + 1, by omega, rfl⟩
theorem checkF_G (H : RG g) : RG (checkF g).1 := H.u8 ⟨0, by decide, rfl⟩
end
end SPEC30
