section R1
theorem rM_boat {l : Launch} {E : sk_V} {d : Nat} {h : sk_M} {v : Int32} (hG : RG (h 55)) : sk_K l E (d + 2) MX8_boat [.ref 54, .int v] h (fun r h1 => oM h h1 (boatF (h 55) v).1 (boatF (h 55) v).2 r) := by
  refine (cM_boat hG.b).mono (fun r h1 q => ?_)
  rcases q with ⟨c, q⟩ | ⟨c, c2, q⟩ | ⟨c, c2, rfl, rfl⟩
  · unfold boatF
    rw [cif_f c]
    exact oM.er q
  · unfold boatF
    rw [cif_t c, cif_t c2]
    exact oM.er q
  · unfold boatF
    rw [cif_t c, cif_f (by omega)]
    exact oM.g ((((sk_o.rf.u (by decide)).u (by decide)).u (by decide)).u (by decide)) (by simp only [sk_u, sk_r_eq]) rfl
theorem rM_boatIs {l : Launch} {E : sk_V} {d : Nat} {h : sk_M} {b w : Int32} (hG : RG (h 55)) : sk_K l E (d + 4) MX8_boatIs [.ref 54, .int b, .int w] h (fun r h1 => oM h h1 (boatIsF (h 55) b w).1 (boatIsF (h 55) b w).2 r) := by
  refine (cM_boatIs hG.b hG.i0).mono (fun r h1 q => ?_)
  rcases q with ⟨c, q⟩ | ⟨j, hj, rfl, i, hi, rfl, ho, rfl⟩
  · unfold boatIsF
    rw [cif_f c]
    exact oM.er q
  · unfold boatIsF
    rw [cif_t ⟨⟨j, hj, rfl⟩, ⟨i, hi, rfl⟩⟩, clN (show j < 2147483648 by have := hG.b.2; omega), clN (show i < 2147483648 by omega)]
    exact oM.o (ho.more (by decide)) rfl
theorem rM_become {l : Launch} {E : sk_V} {d : Nat} {h : sk_M} {b v : Int32} (hG : RG (h 55)) : sk_K l E (d + 2) MX8_become [.ref 54, .int b, .int v] h (fun r h1 => oM h h1 (becomeF (h 55) b v).1 (becomeF (h 55) b v).2 r) := by
  refine (cM_become hG.b).mono (fun r h1 q => ?_)
  rcases q with ⟨j, hj, rfl, c, rfl, rfl⟩ | ⟨c, q⟩
  · unfold becomeF
    rw [cif_t ⟨⟨j, hj, rfl⟩, c⟩, clN (show j < 2147483648 by have := hG.b.2; omega)]
    exact oM.g ((sk_o.rf.u (by decide)).u (by decide)) (by simp only [sk_u, sk_r_eq]) rfl
  · unfold becomeF
    rw [cif_f c]
    exact oM.er q
theorem rM_as {l : Launch} {E : sk_V} {d : Nat} {h : sk_M} {b k : Int32} (hG : RG (h 55)) : sk_K l E (d + 2) MX8_as [.ref 54, .int b, .int k] h (fun r h1 => oM h h1 (asF (h 55) b k).1 (asF (h 55) b k).2 r) := by
  refine (cM_as hG.b).mono (fun r h1 q => ?_)
  rcases q with ⟨c, q⟩ | ⟨j, hj, rfl, c, ⟨c2, rfl, rfl⟩ | ⟨c2, q⟩⟩
  · unfold asF
    rw [cif_f c]
    exact oM.er q
  · unfold asF
    rw [cif_t ⟨⟨j, hj, rfl⟩, c⟩, clN (show j < 2147483648 by have := hG.b.2; omega), cif_t c2]
    exact oM.o sk_o.rf rfl
  · unfold asF
    rw [cif_t ⟨⟨j, hj, rfl⟩, c⟩, clN (show j < 2147483648 by have := hG.b.2; omega), cif_f c2]
    exact oM.er q
theorem rM_lose {l : Launch} {E : sk_V} {d : Nat} {h : sk_M} {b v : Int32} (hG : RG (h 55)) : sk_K l E (d + 2) MX8_lose [.ref 54, .int b, .int v] h (fun r h1 => oM h h1 (loseF (h 55) b v).1 (loseF (h 55) b v).2 r) := by
  refine (cM_lose hG.b).mono (fun r h1 q => ?_)
  rcases q with ⟨j, hj, rfl, c, rfl, rfl⟩ | ⟨c, q⟩
  · unfold loseF
    rw [cif_t ⟨⟨j, hj, rfl⟩, c⟩, clN (show j < 2147483648 by have := hG.b.2; omega)]
    exact oM.g (sk_o.rf.u (by decide)) (by simp only [sk_u, sk_r_eq]) rfl
  · unfold loseF
    rw [cif_f c]
    exact oM.er q
theorem rM_rises {l : Launch} {E : sk_V} {d : Nat} {h : sk_M} {v : Int32} (hG : RG (h 55)) : sk_K l E (d + 1) MX8_rises [.ref 54, .int v] h (fun r h1 => oM h h1 (risesF (h 55) v).1 (risesF (h 55) v).2 r) := by
  refine (cM_rises).mono (fun r h1 q => ?_)
  rcases q with ⟨c, rfl, rfl⟩ | ⟨c, q⟩
  · unfold risesF
    rw [cif_t c]
    exact oM.g (sk_o.rf.u (by decide)) (by simp only [sk_u, sk_r_eq]) rfl
  · unfold risesF
    rw [cif_f c]
    exact oM.er q
theorem rM_price {l : Launch} {E : sk_V} {d : Nat} {h : sk_M} {f v : Int32} (hG : RG (h 55)) : sk_K l E (d + 2) MX8_price [.ref 54, .int f, .int v] h (fun r h1 => oM h h1 (priceF (h 55) f v).1 (priceF (h 55) f v).2 r) := by
  refine (cM_price).mono (fun r h1 q => ?_)
  rcases q with ⟨j, hj, rfl, c, rfl, rfl⟩ | ⟨c, q⟩
  · unfold priceF
    rw [cif_t ⟨⟨j, hj, rfl⟩, c⟩, clN (show j < 2147483648 by omega)]
    exact oM.g (sk_o.rf.u (by decide)) (by simp only [sk_u, sk_r_eq]) rfl
  · unfold priceF
    rw [cif_f c]
    exact oM.er q
theorem rM_sell {l : Launch} {E : sk_V} {d : Nat} {h : sk_M} {f n : Int32} (hG : RG (h 55)) : sk_K l E (d + 5) MX8_sell [.ref 54, .int f, .int n] h (fun r h1 => oM h h1 (sellF (h 55) f n).1 (sellF (h 55) f n).2 r) := by
  refine (cM_sell hG.i1).mono (fun r h1 q => ?_)
  rcases q with ⟨c, q⟩ | ⟨j, hj, rfl, c, ⟨c2, q⟩ | ⟨c2, ho, eg, rfl⟩⟩
  · unfold sellF
    rw [cif_f c]
    exact oM.er q
  · unfold sellF
    rw [cif_t ⟨⟨j, hj, rfl⟩, c⟩, clN (show j < 2147483648 by omega), cif_f c2]
    exact oM.er q
  · unfold sellF
    rw [cif_t ⟨⟨j, hj, rfl⟩, c⟩, clN (show j < 2147483648 by omega), cif_t c2]
    exact oM.g ho eg rfl
theorem rM_untell {l : Launch} {E : sk_V} {d : Nat} {h : sk_M} {x : Int32} (hG : RG (h 55)) : sk_K l E (d + 1) MX8_untell [.ref 54, .int x] h (fun r h1 => oM h h1 (untellF (h 55) x).1 (untellF (h 55) x).2 r) := by
  refine (cM_untell).mono (fun r h1 q => ?_)
  rcases q with ⟨c, q⟩ | ⟨j, hj, rfl, rfl, rfl⟩
  · unfold untellF
    rw [cif_f c]
    exact oM.er q
  · unfold untellF
    rw [cif_t ⟨j, hj, rfl⟩, clN (show j < 2147483648 by omega)]
    exact oM.g (sk_o.rf.u (by decide)) (by simp only [sk_u, sk_r_eq]) rfl
theorem rM_law {l : Launch} {E : sk_V} {d : Nat} {h : sk_M} {x a b c : Int32} (hG : RG (h 55)) : sk_K l E (d + 3) MX8_law [.ref 54, .int x, .int a, .int b, .int c] h (fun r h1 => oM h h1 (lawF (h 55) x a b c).1 (lawF (h 55) x a b c).2 r) := by
  refine (cM_law hG.i0 hG.i1).mono (fun r h1 q => ?_)
  rcases q with ⟨c, q⟩ | ⟨j, hj, rfl, ho, rfl⟩
  · unfold lawF
    rw [cif_f c]
    exact oM.er q
  · unfold lawF
    rw [cif_t ⟨j, hj, rfl⟩, clN (show j < 2147483648 by omega)]
    exact oM.o (ho.more (by decide)) rfl
theorem rM_tally {l : Launch} {E : sk_V} {d : Nat} {h : sk_M}  (hG : RG (h 55)) : sk_K l E (d + 7) MX8_tally [.ref 54] h (fun r h1 => oM h h1 (tallyF (h 55)).1 (tallyF (h 55)).2 r) := by
  refine (cM_tally hG.b hG.i0).mono (fun r h1 q => ?_)
  rcases q with ⟨c, q⟩ | ⟨c, ho, eg, rfl⟩
  · unfold tallyF
    rw [cif_t c]
    exact oM.er q
  · unfold tallyF
    rw [cif_f c]
    exact oM.g ho eg rfl
theorem rM_loose {l : Launch} {E : sk_V} {d : Nat} {h : sk_M} {x : Int32} (hG : RG (h 55)) : sk_K l E (d + 8) MX8_loose [.ref 54, .int x] h (fun r h1 => oM h h1 (looseF (h 55) x).1 (looseF (h 55) x).2 r) := by
  refine (cM_loose hG.b hG.i0 hG.i1).mono (fun r h1 q => ?_)
  rcases q with ⟨c, q⟩ | ⟨n, hn, h1n, rfl, ⟨c2, q⟩ | ⟨c2, ho, eg, rfl⟩⟩
  · unfold looseF
    rw [cif_f c]
    exact oM.er q
  · unfold looseF
    rw [cif_t (show 1 ≤ nI n ∧ nI n ≤ 30 from ⟨nI_le (a := 1) h1n (by omega), nI_le (b := 30) hn (by decide)⟩), cif_f c2]
    exact oM.er q
  · unfold looseF
    rw [cif_t (show 1 ≤ nI n ∧ nI n ≤ 30 from ⟨nI_le (a := 1) h1n (by omega), nI_le (b := 30) hn (by decide)⟩), cif_t c2, clN (show n < 2147483648 by omega)]
    exact oM.g ho eg rfl
theorem rM_seed {l : Launch} {E : sk_V} {d : Nat} {h : sk_M} {v : Int32} (hG : RG (h 55)) : sk_K l E (d + 1) MX8_seed [.ref 54, .int v] h (fun r h1 => oM h h1 (seedF (h 55) v).1 (seedF (h 55) v).2 r) := by
  refine (cM_seed).mono (fun r h1 q => ?_)
  rcases q with ⟨rfl, rfl⟩
  · unfold seedF
    exact oM.g (sk_o.rf.u (by decide)) (by simp only [sk_u, sk_r_eq]) rfl
theorem rM_catches {l : Launch} {E : sk_V} {d : Nat} {h : sk_M} {f : Int32} (hG : RG (h 55)) : sk_K l E (d + 6) MX8_catches [.ref 54, .int f] h (fun r h1 => oM h h1 (catchesF (h 55) f).1 (catchesF (h 55) f).2 r) := by
  refine (cM_catches hG.b hG.i0).mono (fun r h1 q => ?_)
  rcases q with ⟨c, q⟩ | ⟨j, hj, rfl, ho, rfl⟩
  · unfold catchesF
    rw [cif_f c]
    exact oM.er q
  · unfold catchesF
    rw [cif_t ⟨j, hj, rfl⟩, clN (show j < 2147483648 by omega)]
    exact oM.o (ho.more (by decide)) rfl
theorem rM_safe {l : Launch} {E : sk_V} {d : Nat} {h : sk_M} {f : Int32} (hG : RG (h 55)) : sk_K l E (d + 6) MX8_safe [.ref 54, .int f] h (fun r h1 => oM h h1 (safeF (h 55) f).1 (safeF (h 55) f).2 r) := by
  refine (cM_safe hG.b hG.i0).mono (fun r h1 q => ?_)
  rcases q with ⟨c, q⟩ | ⟨c, ho, rfl⟩
  · unfold safeF
    rw [cif_f c]
    exact oM.er q
  · unfold safeF
    rw [cif_t c]
    exact oM.o (ho.more (by decide)) rfl
theorem rM_best {l : Launch} {E : sk_V} {d : Nat} {h : sk_M} {f w : Int32} (hG : RG (h 55)) : sk_K l E (d + 7) MX8_best [.ref 54, .int f, .int w] h (fun r h1 => oM h h1 (bestF (h 55) f w).1 (bestF (h 55) f w).2 r) := by
  refine (cM_best hG.b hG.i0 hG.i1).mono (fun r h1 q => ?_)
  rcases q with ⟨c, q⟩ | ⟨j, hj, rfl, c, ho, rfl⟩
  · unfold bestF
    rw [cif_f c]
    exact oM.er q
  · unfold bestF
    rw [cif_t ⟨⟨j, hj, rfl⟩, c⟩, clN (show j < 2147483648 by omega)]
    exact oM.o (ho.more (by decide)) rfl
theorem rM_agrees {l : Launch} {E : sk_V} {d : Nat} {h : sk_M} {f w : Int32} (hG : RG (h 55)) : sk_K l E (d + 5) MX8_agrees [.ref 54, .int f, .int w] h (fun r h1 => oM h h1 (agreesF (h 55) f w).1 (agreesF (h 55) f w).2 r) := by
  refine (cM_agrees hG.b hG.i0).mono (fun r h1 q => ?_)
  rcases q with ⟨c, q⟩ | ⟨c, c2, ⟨c3, ho, rfl⟩ | ⟨c3, c4, q⟩ | ⟨c3, c4, ho, rfl⟩⟩
  · unfold agreesF
    rw [cif_f c]
    exact oM.er q
  · unfold agreesF
    rw [cif_t ⟨c, c2⟩, if_pos c3]
    exact oM.o (ho.more (by decide)) rfl
  · unfold agreesF
    rw [cif_t ⟨c, c2⟩, if_neg c3, if_neg c4]
    exact oM.T q
  · unfold agreesF
    rw [cif_t ⟨c, c2⟩, if_neg c3, if_pos c4]
    exact oM.o (ho.more (by decide)) rfl
theorem rM_needs {l : Launch} {E : sk_V} {d : Nat} {h : sk_M} {w : Int32} (hG : RG (h 55)) : sk_K l E (d + 4) MX8_needs [.ref 54, .int w] h (fun r h1 => oM h h1 (needsF (h 55) w).1 (needsF (h 55) w).2 r) := by
  refine (cM_needs hG.b hG.i0).mono (fun r h1 q => ?_)
  rcases q with ⟨c, q⟩ | ⟨c, ⟨c2, ho, rfl⟩ | ⟨c2, g, ho, rfl, rfl⟩⟩
  · unfold needsF
    rw [cif_f c]
    exact oM.er q
  · unfold needsF
    rw [cif_t c, if_neg c2]
    exact oM.o ho rfl
  · unfold needsF
    rw [cif_t c, if_pos c2]
    exact ⟨(ho.more (by decide)).u (by decide), by rw [sk_u_at, if_neg (by decide), ho 54 (by decide)], by rw [sk_u_at, if_neg (by decide), ho 54 (by decide)], (sk_r_ne _ _ (by decide)).trans (ho 55 (by decide)), rfl⟩
theorem rM_soonest {l : Launch} {E : sk_V} {d : Nat} {h : sk_M} {f n : Int32} (hG : RG (h 55)) : sk_K l E (d + 6) MX8_soonest [.ref 54, .int f, .int n] h (fun r h1 => oM h h1 (soonestF (h 55) f n).1 (soonestF (h 55) f n).2 r) := by
  have ed : h 55 0 = nI (cl (h 55 0)) ∧ cl (h 55 0) ≤ 9999 := by
    obtain ⟨dy, hdy, e⟩ := hG.da
    rw [e, clN (by omega)]
    exact ⟨rfl, hdy⟩
  refine (cM_soonest ed.1 ed.2 hG.b hG.i0).mono (fun r h1 q => ?_)
  rcases q with ⟨c, q⟩ | ⟨c, c2, ⟨c3, q⟩ | ⟨c3, ho, rfl⟩⟩
  · unfold soonestF
    rw [cif_f c]
    exact oM.er q
  · unfold soonestF
    rw [cif_t ⟨c, c2⟩, if_pos c3]
    exact oM.T q
  · unfold soonestF
    rw [cif_t ⟨c, c2⟩, if_neg (by omega)]
    exact oM.o (ho.more (by decide)) rfl
theorem rM_odds {l : Launch} {E : sk_V} {d : Nat} {h : sk_M} {f n p : Int32} (hG : RG (h 55)) : sk_K l E (d + 6) MX8_odds [.ref 54, .int f, .int n, .int p] h (fun r h1 => oM h h1 (oddsF (h 55) f n p).1 (oddsF (h 55) f n p).2 r) := by
  refine (cM_odds hG.b hG.i0).mono (fun r h1 q => ?_)
  rcases q with ⟨c, q⟩ | ⟨c, c2, c3, ho, rfl⟩
  · unfold oddsF
    rw [cif_f c]
    exact oM.er q
  · unfold oddsF
    rw [cif_t ⟨c, c2, c3⟩]
    exact oM.o (ho.more (by decide)) rfl
theorem rM_mean {l : Launch} {E : sk_V} {d : Nat} {h : sk_M} {f p : Int32} (hG : RG (h 55)) : sk_K l E (d + 6) MX8_mean [.ref 54, .int f, .int p] h (fun r h1 => oM h h1 (meanF (h 55) f p).1 (meanF (h 55) f p).2 r) := by
  refine (cM_mean hG.b hG.i0).mono (fun r h1 q => ?_)
  rcases q with ⟨c, q⟩ | ⟨j, hj, rfl, c, ho, rfl⟩
  · unfold meanF
    rw [cif_f c]
    exact oM.er q
  · unfold meanF
    rw [cif_t ⟨⟨j, hj, rfl⟩, c⟩, clN (show j < 2147483648 by omega)]
    exact oM.o (ho.more (by decide)) rfl
theorem rM_tell {l : Launch} {E : sk_V} {d : Nat} {h : sk_M} {v : Int32} (hG : RG (h 55)) : sk_K l E (d + 1) MX8_tell [.ref 54, .int v] h (fun r h1 => oM h h1 (tellF (h 55) v).1 (tellF (h 55) v).2 r) := by
  obtain ⟨n, hn, en⟩ := hG.wt
  refine (cM_tell en hn).mono (fun r h1 q => ?_)
  rcases q with ⟨c, q⟩ | ⟨c, rfl, rfl⟩
  · unfold tellF
    rw [en, clN (by omega), cif_t c]
    exact oM.er q
  · unfold tellF
    rw [en, clN (by omega), cif_f (by omega)]
    exact oM.g ((sk_o.rf.u (by decide)).u (by decide)) (by simp only [sk_u, sk_r_eq]) rfl
theorem rM_check {l : Launch} {E : sk_V} {d : Nat} {h : sk_M}  (hG : RG (h 55)) : sk_K l E (d + 2) MX8_check [.ref 54] h (fun r h1 => oM h h1 (checkF (h 55)).1 (checkF (h 55)).2 r) := by
  obtain ⟨n, hn, en⟩ := hG.wt
  refine (cM_check en hn).mono (fun r h1 q => ?_)
  rcases q with ⟨rfl, rfl⟩
  · unfold checkF
    rw [en, clN (by omega)]
    exact oM.g (sk_o.rf.u (by decide)) (by simp only [sk_u, sk_r_eq]) rfl
theorem rM_feed {l : Launch} {E : sk_V} {d : Nat} {h : sk_M} {w : Int64} {x : Int32} (hG : RG (h 55)) : sk_K l E (d + 1) MX8_feed [.ref 54, .long w, .int x] h (fun r h1 => oM h h1 (feedF (h 55) w x).1 (feedF (h 55) w x).2 r) := by
  obtain ⟨tp, ht, et⟩ := hG.tp
  refine (cM_feed et ht).mono (fun r h1 q => ?_)
  rcases q with ⟨c, q⟩ | ⟨n, h1n, h8n, rfl, ⟨c2, q⟩ | ⟨c2, ho, eg, rfl⟩⟩
  · unfold feedF
    rw [cif_f c]
    exact oM.er q
  · have hx : 1 ≤ nI n ∧ nI n ≤ 8 := ⟨nI_le (a := 1) h1n (by omega), nI_le (b := 8) h8n (by decide)⟩
    unfold feedF
    rw [cif_t hx, et, clN (by omega), clN (by omega), cif_t c2]
    exact oM.er q
  · have hx : 1 ≤ nI n ∧ nI n ≤ 8 := ⟨nI_le (a := 1) h1n (by omega), nI_le (b := 8) h8n (by decide)⟩
    unfold feedF
    rw [cif_t hx, et, clN (by omega), clN (by omega), cif_f (by omega)]
    exact oM.g (ho.more (by decide)) eg rfl
theorem rM_text {l : Launch} {E : sk_V} {d : Nat} {h : sk_M} {x : Int32} (hG : RG (h 55)) : sk_K l E (d + 75) MX8_text [.ref 54, .int x] h (fun r h1 => oM h h1 (textF (h 55) x).1 (textF (h 55) x).2 r) := by
  obtain ⟨tp, ht, et⟩ := hG.tp
  refine (cM_text et ht).mono (fun r h1 q => ?_)
  rcases q with ⟨c, q⟩ | ⟨j, hj, rfl, ⟨c2, ho, h54, eg, rfl⟩ | ⟨c2, c3, ho, h54, eg, rfl⟩⟩
  · unfold textF
    rw [cif_f c]
    exact oM.er q
  · unfold textF
    rw [cif_t ⟨j, hj, rfl⟩, et, clN (by omega), clN (by omega), cif_f (fun z => c2.elim (fun e => absurd (e.symm.trans z.1) Bool.false_ne_true) (fun e => absurd z.2 (Nat.ne_of_lt e)))]
    exact ⟨ho.more (by decide), h54 2 (by decide) (by decide) (by decide) (by decide) (by decide), h54 18 (by decide) (by decide) (by decide) (by decide) (by decide), eg, rfl⟩
  · unfold textF
    rw [cif_t ⟨j, hj, rfl⟩, et, clN (by omega), clN (by omega), cif_t ⟨c2, c3⟩]
    exact ⟨ho.more (by decide), h54 2 (by decide) (by decide) (by decide) (by decide) (by decide), h54 18 (by decide) (by decide) (by decide) (by decide) (by decide), eg, rfl⟩
end R1
