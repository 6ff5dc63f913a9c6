section S1
theorem st_boat {l : Launch} {E : sk_V} {d : Nat} {h : sk_M} {v : Int32} (H : Inv h) : sk_K l E (d + 200) MX7_boat [.ref 0, .int v] h (fun r h1 => ∃ v1, some (.int v1) = r ∧ sk_K l E (d + 200) MX8_boat [.ref 54, .int v] h1 (fun r2 h2 => ∃ w1, some (.int w1) = r2 ∧ Inv h2 ∧ v1 = w1)) :=
  st_of H (cP_boat (d := d + 195) H.1 H.2.1) (fun h1 e54 e55 => by
    have k := rM_boat (l := l) (E := E) (d := d + 198) (h := h1) (v := v) (by rw [e55]; exact H.2.1)
    rw [e55] at k
    exact k) (boatF_G H.2.1)
theorem st_boatIs {l : Launch} {E : sk_V} {d : Nat} {h : sk_M} {b : Int32} {w : Int32} (H : Inv h) : sk_K l E (d + 200) MX7_boatIs [.ref 0, .int b, .int w] h (fun r h1 => ∃ v1, some (.int v1) = r ∧ sk_K l E (d + 200) MX8_boatIs [.ref 54, .int b, .int w] h1 (fun r2 h2 => ∃ w1, some (.int w1) = r2 ∧ Inv h2 ∧ v1 = w1)) :=
  st_of H (cP_boatIs (d := d + 194) H.1 H.2.1) (fun h1 e54 e55 => by
    have k := rM_boatIs (l := l) (E := E) (d := d + 196) (h := h1) (b := b) (w := w) (by rw [e55]; exact H.2.1)
    rw [e55] at k
    exact k) (boatIsF_G H.2.1)
theorem st_become {l : Launch} {E : sk_V} {d : Nat} {h : sk_M} {b : Int32} {v : Int32} (H : Inv h) : sk_K l E (d + 200) MX7_become [.ref 0, .int b, .int v] h (fun r h1 => ∃ v1, some (.int v1) = r ∧ sk_K l E (d + 200) MX8_become [.ref 54, .int b, .int v] h1 (fun r2 h2 => ∃ w1, some (.int w1) = r2 ∧ Inv h2 ∧ v1 = w1)) :=
  st_of H (cP_become (d := d + 195) H.1 H.2.1) (fun h1 e54 e55 => by
    have k := rM_become (l := l) (E := E) (d := d + 198) (h := h1) (b := b) (v := v) (by rw [e55]; exact H.2.1)
    rw [e55] at k
    exact k) (becomeF_G H.2.1)
theorem st_as {l : Launch} {E : sk_V} {d : Nat} {h : sk_M} {b : Int32} {k : Int32} (H : Inv h) : sk_K l E (d + 200) MX7_as [.ref 0, .int b, .int k] h (fun r h1 => ∃ v1, some (.int v1) = r ∧ sk_K l E (d + 200) MX8_as [.ref 54, .int b, .int k] h1 (fun r2 h2 => ∃ w1, some (.int w1) = r2 ∧ Inv h2 ∧ v1 = w1)) :=
  st_of H (cP_as (d := d + 195) H.1 H.2.1) (fun h1 e54 e55 => by
    have k := rM_as (l := l) (E := E) (d := d + 198) (h := h1) (b := b) (k := k) (by rw [e55]; exact H.2.1)
    rw [e55] at k
    exact k) (asF_G H.2.1)
theorem st_lose {l : Launch} {E : sk_V} {d : Nat} {h : sk_M} {b : Int32} {v : Int32} (H : Inv h) : sk_K l E (d + 200) MX7_lose [.ref 0, .int b, .int v] h (fun r h1 => ∃ v1, some (.int v1) = r ∧ sk_K l E (d + 200) MX8_lose [.ref 54, .int b, .int v] h1 (fun r2 h2 => ∃ w1, some (.int w1) = r2 ∧ Inv h2 ∧ v1 = w1)) :=
  st_of H (cP_lose (d := d + 195) H.1 H.2.1) (fun h1 e54 e55 => by
    have k := rM_lose (l := l) (E := E) (d := d + 198) (h := h1) (b := b) (v := v) (by rw [e55]; exact H.2.1)
    rw [e55] at k
    exact k) (loseF_G H.2.1)
theorem st_rises {l : Launch} {E : sk_V} {d : Nat} {h : sk_M} {v : Int32} (H : Inv h) : sk_K l E (d + 200) MX7_rises [.ref 0, .int v] h (fun r h1 => ∃ v1, some (.int v1) = r ∧ sk_K l E (d + 200) MX8_rises [.ref 54, .int v] h1 (fun r2 h2 => ∃ w1, some (.int w1) = r2 ∧ Inv h2 ∧ v1 = w1)) :=
  st_of H (cP_rises (d := d + 195) H.1 H.2.1) (fun h1 e54 e55 => by
    have k := rM_rises (l := l) (E := E) (d := d + 199) (h := h1) (v := v) (by rw [e55]; exact H.2.1)
    rw [e55] at k
    exact k) (risesF_G H.2.1)
theorem st_price {l : Launch} {E : sk_V} {d : Nat} {h : sk_M} {f : Int32} {v : Int32} (H : Inv h) : sk_K l E (d + 200) MX7_price [.ref 0, .int f, .int v] h (fun r h1 => ∃ v1, some (.int v1) = r ∧ sk_K l E (d + 200) MX8_price [.ref 54, .int f, .int v] h1 (fun r2 h2 => ∃ w1, some (.int w1) = r2 ∧ Inv h2 ∧ v1 = w1)) :=
  st_of H (cP_price (d := d + 195) H.1 H.2.1) (fun h1 e54 e55 => by
    have k := rM_price (l := l) (E := E) (d := d + 198) (h := h1) (f := f) (v := v) (by rw [e55]; exact H.2.1)
    rw [e55] at k
    exact k) (priceF_G H.2.1)
theorem st_sell {l : Launch} {E : sk_V} {d : Nat} {h : sk_M} {f : Int32} {n : Int32} (H : Inv h) : sk_K l E (d + 200) MX7_sell [.ref 0, .int f, .int n] h (fun r h1 => ∃ v1, some (.int v1) = r ∧ sk_K l E (d + 200) MX8_sell [.ref 54, .int f, .int n] h1 (fun r2 h2 => ∃ w1, some (.int w1) = r2 ∧ Inv h2 ∧ v1 = w1)) :=
  st_of H (cP_sell (d := d + 194) H.1 H.2.1) (fun h1 e54 e55 => by
    have k := rM_sell (l := l) (E := E) (d := d + 195) (h := h1) (f := f) (n := n) (by rw [e55]; exact H.2.1)
    rw [e55] at k
    exact k) (sellF_G H.2.1)
theorem st_feed {l : Launch} {E : sk_V} {d : Nat} {h : sk_M} {w : Int64} {x : Int32} (H : Inv h) : sk_K l E (d + 200) MX7_feed [.ref 0, .long w, .int x] h (fun r h1 => ∃ v1, some (.int v1) = r ∧ sk_K l E (d + 200) MX8_feed [.ref 54, .long w, .int x] h1 (fun r2 h2 => ∃ w1, some (.int w1) = r2 ∧ Inv h2 ∧ v1 = w1)) :=
  st_of H (cP_feed (d := d + 195) H.1 H.2.1) (fun h1 e54 e55 => by
    have k := rM_feed (l := l) (E := E) (d := d + 199) (h := h1) (w := w) (x := x) (by rw [e55]; exact H.2.1)
    rw [e55] at k
    exact k) (feedF_G H.2.1)
theorem st_text {l : Launch} {E : sk_V} {d : Nat} {h : sk_M} {x : Int32} (H : Inv h) : sk_K l E (d + 200) MX7_text [.ref 0, .int x] h (fun r h1 => ∃ v1, some (.int v1) = r ∧ sk_K l E (d + 200) MX8_text [.ref 54, .int x] h1 (fun r2 h2 => ∃ w1, some (.int w1) = r2 ∧ Inv h2 ∧ v1 = w1)) :=
  st_of H (cP_text (d := d + 84) H.1 H.2.1) (fun h1 e54 e55 => by
    have k := rM_text (l := l) (E := E) (d := d + 125) (h := h1) (x := x) (by rw [e55]; exact H.2.1)
    rw [e55] at k
    exact k) (textF_G H.2.1)
theorem st_untell {l : Launch} {E : sk_V} {d : Nat} {h : sk_M} {x : Int32} (H : Inv h) : sk_K l E (d + 200) MX7_untell [.ref 0, .int x] h (fun r h1 => ∃ v1, some (.int v1) = r ∧ sk_K l E (d + 200) MX8_untell [.ref 54, .int x] h1 (fun r2 h2 => ∃ w1, some (.int w1) = r2 ∧ Inv h2 ∧ v1 = w1)) :=
  st_of H (cP_untell (d := d + 195) H.1 H.2.1) (fun h1 e54 e55 => by
    have k := rM_untell (l := l) (E := E) (d := d + 199) (h := h1) (x := x) (by rw [e55]; exact H.2.1)
    rw [e55] at k
    exact k) (untellF_G H.2.1)
theorem st_law {l : Launch} {E : sk_V} {d : Nat} {h : sk_M} {x : Int32} {a : Int32} {b : Int32} {c : Int32} (H : Inv h) : sk_K l E (d + 200) MX7_law [.ref 0, .int x, .int a, .int b, .int c] h (fun r h1 => ∃ v1, some (.int v1) = r ∧ sk_K l E (d + 200) MX8_law [.ref 54, .int x, .int a, .int b, .int c] h1 (fun r2 h2 => ∃ w1, some (.int w1) = r2 ∧ Inv h2 ∧ v1 = w1)) :=
  st_of H (cP_law (d := d + 194) H.1 H.2.1) (fun h1 e54 e55 => by
    have k := rM_law (l := l) (E := E) (d := d + 197) (h := h1) (x := x) (a := a) (b := b) (c := c) (by rw [e55]; exact H.2.1)
    rw [e55] at k
    exact k) (lawF_G H.2.1)
theorem st_tally {l : Launch} {E : sk_V} {d : Nat} {h : sk_M} (H : Inv h) : sk_K l E (d + 200) MX7_tally [.ref 0] h (fun r h1 => ∃ v1, some (.int v1) = r ∧ sk_K l E (d + 200) MX8_tally [.ref 54] h1 (fun r2 h2 => ∃ w1, some (.int w1) = r2 ∧ Inv h2 ∧ v1 = w1)) :=
  st_of H (cP_tally (d := d + 193) H.1 H.2.1) (fun h1 e54 e55 => by
    have k := rM_tally (l := l) (E := E) (d := d + 193) (h := h1) (by rw [e55]; exact H.2.1)
    rw [e55] at k
    exact k) (tallyF_G H.2.1)
theorem st_loose {l : Launch} {E : sk_V} {d : Nat} {h : sk_M} {x : Int32} (H : Inv h) : sk_K l E (d + 200) MX7_loose [.ref 0, .int x] h (fun r h1 => ∃ v1, some (.int v1) = r ∧ sk_K l E (d + 200) MX8_loose [.ref 54, .int x] h1 (fun r2 h2 => ∃ w1, some (.int w1) = r2 ∧ Inv h2 ∧ v1 = w1)) :=
  st_of H (cP_loose (d := d + 192) H.1 H.2.1) (fun h1 e54 e55 => by
    have k := rM_loose (l := l) (E := E) (d := d + 192) (h := h1) (x := x) (by rw [e55]; exact H.2.1)
    rw [e55] at k
    exact k) (looseF_G H.2.1)
theorem st_seed {l : Launch} {E : sk_V} {d : Nat} {h : sk_M} {v : Int32} (H : Inv h) : sk_K l E (d + 200) MX7_seed [.ref 0, .int v] h (fun r h1 => ∃ v1, some (.int v1) = r ∧ sk_K l E (d + 200) MX8_seed [.ref 54, .int v] h1 (fun r2 h2 => ∃ w1, some (.int w1) = r2 ∧ Inv h2 ∧ v1 = w1)) :=
  st_of H (cP_seed (d := d + 195) H.1 H.2.1) (fun h1 e54 e55 => by
    have k := rM_seed (l := l) (E := E) (d := d + 199) (h := h1) (v := v) (by rw [e55]; exact H.2.1)
    rw [e55] at k
    exact k) (seedF_G H.2.1)
theorem st_catches {l : Launch} {E : sk_V} {d : Nat} {h : sk_M} {f : Int32} (H : Inv h) : sk_K l E (d + 200) MX7_catches [.ref 0, .int f] h (fun r h1 => ∃ v1, some (.int v1) = r ∧ sk_K l E (d + 200) MX8_catches [.ref 54, .int f] h1 (fun r2 h2 => ∃ w1, some (.int w1) = r2 ∧ Inv h2 ∧ v1 = w1)) :=
  st_of H (cP_catches (d := d + 193) H.1 H.2.1) (fun h1 e54 e55 => by
    have k := rM_catches (l := l) (E := E) (d := d + 194) (h := h1) (f := f) (by rw [e55]; exact H.2.1)
    rw [e55] at k
    exact k) (catchesF_G H.2.1)
theorem st_safe {l : Launch} {E : sk_V} {d : Nat} {h : sk_M} {f : Int32} (H : Inv h) : sk_K l E (d + 200) MX7_safe [.ref 0, .int f] h (fun r h1 => ∃ v1, some (.int v1) = r ∧ sk_K l E (d + 200) MX8_safe [.ref 54, .int f] h1 (fun r2 h2 => ∃ w1, some (.int w1) = r2 ∧ Inv h2 ∧ v1 = w1)) :=
  st_of H (cP_safe (d := d + 192) H.1 H.2.1) (fun h1 e54 e55 => by
    have k := rM_safe (l := l) (E := E) (d := d + 194) (h := h1) (f := f) (by rw [e55]; exact H.2.1)
    rw [e55] at k
    exact k) (safeF_G H.2.1)
theorem st_best {l : Launch} {E : sk_V} {d : Nat} {h : sk_M} {f : Int32} {w : Int32} (H : Inv h) : sk_K l E (d + 200) MX7_best [.ref 0, .int f, .int w] h (fun r h1 => ∃ v1, some (.int v1) = r ∧ sk_K l E (d + 200) MX8_best [.ref 54, .int f, .int w] h1 (fun r2 h2 => ∃ w1, some (.int w1) = r2 ∧ Inv h2 ∧ v1 = w1)) :=
  st_of H (cP_best (d := d + 192) H.1 H.2.1) (fun h1 e54 e55 => by
    have k := rM_best (l := l) (E := E) (d := d + 193) (h := h1) (f := f) (w := w) (by rw [e55]; exact H.2.1)
    rw [e55] at k
    exact k) (bestF_G H.2.1)
theorem st_agrees {l : Launch} {E : sk_V} {d : Nat} {h : sk_M} {f : Int32} {w : Int32} (H : Inv h) : sk_K l E (d + 200) MX7_agrees [.ref 0, .int f, .int w] h (fun r h1 => ∃ v1, some (.int v1) = r ∧ sk_K l E (d + 200) MX8_agrees [.ref 54, .int f, .int w] h1 (fun r2 h2 => ∃ w1, some (.int w1) = r2 ∧ Inv h2 ∧ v1 = w1)) :=
  st_of H (cP_agrees (d := d + 192) H.1 H.2.1) (fun h1 e54 e55 => by
    have k := rM_agrees (l := l) (E := E) (d := d + 195) (h := h1) (f := f) (w := w) (by rw [e55]; exact H.2.1)
    rw [e55] at k
    exact k) (agreesF_G H.2.1)
theorem st_needs {l : Launch} {E : sk_V} {d : Nat} {h : sk_M} {w : Int32} (H : Inv h) : sk_K l E (d + 200) MX7_needs [.ref 0, .int w] h (fun r h1 => ∃ v1, some (.int v1) = r ∧ sk_K l E (d + 200) MX8_needs [.ref 54, .int w] h1 (fun r2 h2 => ∃ w1, some (.int w1) = r2 ∧ Inv h2 ∧ v1 = w1)) :=
  st_of H (cP_needs (d := d + 192) H.1 H.2.1) (fun h1 e54 e55 => by
    have k := rM_needs (l := l) (E := E) (d := d + 196) (h := h1) (w := w) (by rw [e55]; exact H.2.1)
    rw [e55] at k
    exact k) (needsF_G H.2.1)
theorem st_soonest {l : Launch} {E : sk_V} {d : Nat} {h : sk_M} {f : Int32} {n : Int32} (H : Inv h) : sk_K l E (d + 200) MX7_soonest [.ref 0, .int f, .int n] h (fun r h1 => ∃ v1, some (.int v1) = r ∧ sk_K l E (d + 200) MX8_soonest [.ref 54, .int f, .int n] h1 (fun r2 h2 => ∃ w1, some (.int w1) = r2 ∧ Inv h2 ∧ v1 = w1)) :=
  st_of H (cP_soonest (d := d + 192) H.1 H.2.1) (fun h1 e54 e55 => by
    have k := rM_soonest (l := l) (E := E) (d := d + 194) (h := h1) (f := f) (n := n) (by rw [e55]; exact H.2.1)
    rw [e55] at k
    exact k) (soonestF_G H.2.1)
theorem st_odds {l : Launch} {E : sk_V} {d : Nat} {h : sk_M} {f : Int32} {n : Int32} {p : Int32} (H : Inv h) : sk_K l E (d + 200) MX7_odds [.ref 0, .int f, .int n, .int p] h (fun r h1 => ∃ v1, some (.int v1) = r ∧ sk_K l E (d + 200) MX8_odds [.ref 54, .int f, .int n, .int p] h1 (fun r2 h2 => ∃ w1, some (.int w1) = r2 ∧ Inv h2 ∧ v1 = w1)) :=
  st_of H (cP_odds (d := d + 192) H.1 H.2.1) (fun h1 e54 e55 => by
    have k := rM_odds (l := l) (E := E) (d := d + 194) (h := h1) (f := f) (n := n) (p := p) (by rw [e55]; exact H.2.1)
    rw [e55] at k
    exact k) (oddsF_G H.2.1)
theorem st_mean {l : Launch} {E : sk_V} {d : Nat} {h : sk_M} {f : Int32} {p : Int32} (H : Inv h) : sk_K l E (d + 200) MX7_mean [.ref 0, .int f, .int p] h (fun r h1 => ∃ v1, some (.int v1) = r ∧ sk_K l E (d + 200) MX8_mean [.ref 54, .int f, .int p] h1 (fun r2 h2 => ∃ w1, some (.int w1) = r2 ∧ Inv h2 ∧ v1 = w1)) :=
  st_of H (cP_mean (d := d + 192) H.1 H.2.1) (fun h1 e54 e55 => by
    have k := rM_mean (l := l) (E := E) (d := d + 194) (h := h1) (f := f) (p := p) (by rw [e55]; exact H.2.1)
    rw [e55] at k
    exact k) (meanF_G H.2.1)
theorem st_tell {l : Launch} {E : sk_V} {d : Nat} {h : sk_M} {v : Int32} (H : Inv h) : sk_K l E (d + 200) MX7_tell [.ref 0, .int v] h (fun r h1 => ∃ v1, some (.int v1) = r ∧ sk_K l E (d + 200) MX8_tell [.ref 54, .int v] h1 (fun r2 h2 => ∃ w1, some (.int w1) = r2 ∧ Inv h2 ∧ v1 = w1)) :=
  st_of H (cP_tell (d := d + 195) H.1 H.2.1) (fun h1 e54 e55 => by
    have k := rM_tell (l := l) (E := E) (d := d + 199) (h := h1) (v := v) (by rw [e55]; exact H.2.1)
    rw [e55] at k
    exact k) (tellF_G H.2.1)
theorem st_check {l : Launch} {E : sk_V} {d : Nat} {h : sk_M} (H : Inv h) : sk_K l E (d + 200) MX7_check [.ref 0] h (fun r h1 => ∃ v1, some (.int v1) = r ∧ sk_K l E (d + 200) MX8_check [.ref 54] h1 (fun r2 h2 => ∃ w1, some (.int w1) = r2 ∧ Inv h2 ∧ v1 = w1)) :=
  st_of H (cP_check (d := d + 195) H.1 H.2.1) (fun h1 e54 e55 => by
    have k := rM_check (l := l) (E := E) (d := d + 198) (h := h1) (by rw [e55]; exact H.2.1)
    rw [e55] at k
    exact k) (checkF_G H.2.1)
theorem prR_G {g c : Nat → Int32} {len : Nat} (H : RG g) : ∀ n, n ≤ 4 → (∀ k, k < n → prP c len k = false) → RG (prR g c n)
  | 0, _, _ => by rw [prR_0]; exact H
  | n + 1, hn, hp => by
    have e : upd (prR g c n) (13 + n) (c n) = prR g c (n + 1) := by
      funext k
      unfold prR upd
      by_cases q : k = 13 + n
      · rw [if_pos q, if_pos (by omega), q]
        congr 1
        omega
      · rw [if_neg q]
        show (if 13 ≤ k ∧ k < 13 + n then c (k - 13) else g k) = _
        by_cases q2 : 13 ≤ k ∧ k < 13 + n
        · rw [if_pos q2, if_pos (by omega)]
        · rw [if_neg q2, if_neg (by omega)]
    rw [← e]
    have h1 := of_decide_eq_false (hp n (by omega))
    have h2 : n < len ∧ 0 ≤ c n ∧ c n ≤ 9 := Decidable.byContradiction h1
    exact (prR_G H n (by omega) (fun k hk => hp k (by omega))).u13 (by omega) ((inN_le (M := 9) (n := 10) (by decide)).mp ⟨h2.2.1, h2.2.2⟩)
theorem soF_no {p : Nat → Bool} : ∀ m d k, d ≤ k → k < soF p m d → p k = false
  | 0, d, k, h1, h2 => by
    have : k < d := h2
    omega
  | m + 1, d, k, h1, h2 => by
    by_cases q : p d = true
    · rw [show soF p (m + 1) d = d from if_pos q] at h2
      omega
    · rw [show soF p (m + 1) d = soF p m (d + 1) from if_neg q] at h2
      by_cases e : k = d
      · rw [e]; exact Bool.eq_false_iff.mpr q
      · exact soF_no m (d + 1) k (by omega) h2
theorem st_prices {l : Launch} {E : sk_V} {d : Nat} {h : sk_M} {s : Int32} (H : Inv h) : sk_K l E (d + 200) MX7_prices [.ref 0, .int s] h (fun r h1 => ∃ v1, some (.int v1) = r ∧ sk_K l E (d + 200) MX8_prices [.ref 54, .int s] h1 (fun r2 h2 => ∃ w1, some (.int w1) = r2 ∧ Inv h2 ∧ v1 = w1)) :=
  st_of2 H (cP_prices (d := d + 194) H.1 H.2.1 H.2.2.1) (fun h1 o1 => by
    have f55 : h1 55 = h 55 := o1 55 (by decide)
    have f58 : h1 58 = h 58 := o1 58 (by decide)
    have f59 : h1 59 = h 59 := o1 59 (by decide)
    have f60 : h1 60 = h 60 := o1 60 (by decide)
    have shi : shI h1 := fun j hj => by
      obtain ⟨-, -, ⟨len, l24, e1, -⟩, -⟩ := (H.2.2.1.o o1 (by decide)) j hj
      unfold shN
      rw [e1, nI_clamp (by omega)]
      exact ⟨rfl, l24⟩
    have fnt : ntK h1 s = ntK h s := by unfold ntK; rw [f58]
    refine (cM_prices (l := l) (E := E) (d := d + 197) (h := h1) (s := s) shi).mono (fun r h2 q => ?_)
    rw [fnt, f55] at q
    rcases q with ⟨c, q⟩ | ⟨j, hj, rfl, c, ho, eg, rfl⟩
    · rw [cif_f c]
      have z := oM.er q
      rw [f55] at z
      exact z
    · have hz : ntK h (nI j) = 0 := by
        unfold ntK
        rw [if_pos ⟨j, hj, rfl⟩, nI_clamp (by omega), if_neg (by rw [← f58]; exact c)]
      rw [cif_t hz, clN (show j < 2147483648 by omega)]
      have e1 : ceV h1 j = ceV h j := by unfold ceV; rw [f60]
      have e2 : shN h1 j = shN h j := by unfold shN; rw [f59]
      rw [e1, e2] at eg ⊢
      exact ⟨ho.more (by decide), by rw [ho 54 (by decide)], by rw [ho 54 (by decide)], eg, rfl⟩) (by
    refine cif_P (fun z : aF => RG z.1) (fun _ => ?_) (fun _ => H.2.1)
    exact prR_G H.2.1 _ (soF_le _ 4 0) (fun k hk => soF_no 4 0 k (Nat.zero_le _) hk))
theorem st_count {l : Launch} {E : sk_V} {d : Nat} {h : sk_M} {w : Int32} (H : Inv h) : sk_K l E (d + 200) MX7_count [.ref 0, .int w] h (fun r h1 => ∃ v1, some (.int v1) = r ∧ sk_K l E (d + 200) MX8_count [.ref 54, .int w] h1 (fun r2 h2 => ∃ w1, some (.int w1) = r2 ∧ Inv h2 ∧ v1 = w1)) := by
  obtain ⟨n, hn, v1, v2, v3⟩ := H.2.2.2.1
  refine st_of2 H (cP_count (d := d + 195) H.1 (v1.trans v2.symm)) (fun h1 o1 => ?_) H.2.1
  have f55 : h1 55 = h 55 := o1 55 (by decide)
  have f54 : h1 54 = h 54 := o1 54 (by decide)
  refine (cM_count (l := l) (E := E) (d := d + 199) (h := h1) (w := w)).mono (fun r h2 q => ?_)
  rcases q with ⟨j, hj, rfl, rfl, rfl⟩ | ⟨c, q⟩
  · rw [cif_t ⟨j, hj, rfl⟩, clN (show j < 2147483648 by omega), ← f55]
    have e : cntV h1 j = cntV h j := by unfold cntV; rw [f55, f54]
    rw [← e]
    exact oM.o sk_o.rf rfl
  · rw [cif_f c, ← f55]
    exact oM.er q
theorem st_body {l : Launch} {E : sk_V} {d : Nat} {h : sk_M} {i : Int32} (H : Inv h) : sk_K l E (d + 200) MX7_body [.ref 0, .int i] h (fun r h1 => ∃ v1, some (.int v1) = r ∧ sk_K l E (d + 200) MX8_body [.ref 54, .int i] h1 (fun r2 h2 => ∃ w1, some (.int w1) = r2 ∧ Inv h2 ∧ v1 = w1)) := by
  obtain ⟨n, hn, v1, v2, v3⟩ := H.2.2.2.1
  refine st_of2 H (cP_body (d := d + 195) H.1 hn v1 v3) (fun h1 o1 => ?_) H.2.1
  have f55 : h1 55 = h 55 := o1 55 (by decide)
  have f54 : h1 54 = h 54 := o1 54 (by decide)
  have f66 : h1 66 = h 66 := o1 66 (by decide)
  refine (cM_body (l := l) (E := E) (d := d + 199) (h := h1) (i := i) (n := n) (by rw [f54]; exact v2) hn).mono (fun r h2 q => ?_)
  rcases q with ⟨j, hj, rfl, rfl, rfl⟩ | ⟨c, q⟩
  · rw [cif_t ⟨j, hj, rfl⟩, clN (show j < 2147483648 by omega), ← f55, ← f66]
    exact oM.o sk_o.rf rfl
  · rw [cif_f c, ← f55]
    exact oM.er q
theorem st_restore {l : Launch} {E : sk_V} {d : Nat} {h : sk_M} (H : Inv h) : sk_K l E (d + 200) MX7_restore [.ref 0] h (fun r h1 => ∃ v1, some (.int v1) = r ∧ sk_K l E (d + 200) MX8_restore [.ref 54] h1 (fun r2 h2 => ∃ w1, some (.int w1) = r2 ∧ Inv h2 ∧ v1 = w1)) := by
  refine st_of2 H (cP_restore (d := d + 194) H.1 H.2.2.2.2.1 H.2.2.2.2.2) (fun h1 o1 => ?_) ?_
  · have f55 : h1 55 = h 55 := o1 55 (by decide)
    have f54 : h1 54 = h 54 := o1 54 (by decide)
    have f56 : h1 56 = h 56 := o1 56 (by decide)
    refine (cM_restore (l := l) (E := E) (d := d + 199) (h := h1)).mono (fun r h2 q => ?_)
    rw [f54, f55, f56] at q
    rcases q with ⟨c, q⟩ | ⟨c, ho, eg, rfl⟩
    · rw [cif_t c, ← f55]
      exact oM.er q
    · rw [cif_f c]
      exact oM.g (ho.more (by decide)) eg rfl
  · refine cif_P (fun z : aF => RG z.1) (fun _ => H.2.1) (fun c => ?_)
    exact (H.2.2.2.2.2 c).2.cg (fun p hp => if_pos hp)
theorem st_image {l : Launch} {E : sk_V} {d : Nat} {h : sk_M} (H : Inv h) : sk_K l E (d + 200) MX7_image [.ref 0] h (fun r h1 => ∃ v1, some (.int v1) = r ∧ sk_K l E (d + 200) MX8_image [.ref 54] h1 (fun r2 h2 => ∃ w1, some (.int w1) = r2 ∧ Inv h2 ∧ v1 = w1)) := by
  refine st_J (P := fun h1 r => sk_o [0, 2, 36, 37, 38, 39, 40, 41, 42, 43, 44, 45, 46, 47, 48, 49, 50, 51] h h1 ∧ RQ 2 36 h1 (h 55) ∧ h1 0 6 = h 0 6 + 1 ∧ some (.int (h 0 6 + 1)) = r) (Q := fun h1 h2 r => sk_o [54, 56] h1 h2 ∧ h2 56 = cpyN (h1 55) (h1 56) 361 ∧ h2 54 = upd (h1 54) 2 (h1 54 2 + 1) ∧ some (.int (h1 54 2 + 1)) = r) (cP_image (d := d + 194) H.1 H.2.1) (fun h1 r q => cM_image (l := l) (E := E) (d := d + 199) (h := h1)) (fun h1 r q => ⟨_, q.2.2.2⟩) (fun h1 h2 r r2 q q2 => ?_)
  obtain ⟨a1, a2, a3, a4, a5⟩ := H
  obtain ⟨o1, k1, i1, rfl⟩ := q
  obtain ⟨o2, k2, i2, rfl⟩ := q2
  have f54 : h1 54 = h 54 := o1 54 (by decide)
  have f55 : h2 55 = h 55 := (o2 55 (by decide)).trans (o1 55 (by decide))
  have e2 : h2 54 2 = h 54 2 + 1 := by rw [i2, upd_eq, f54]
  have e18 : h2 54 18 = h1 54 18 := by rw [i2, upd_ne (by decide)]
  refine ⟨⟨?_, by rw [f55]; exact a2, (a3.o o1 (by decide)).o o2 (by decide), (a4.o o1 (by decide) (by rw [f54])).o o2 (by decide) e18, ?_, fun _ => ?_⟩, by rw [f54, a5.1], _, rfl⟩
  · rw [f55]
    exact (a1.o o1 (by decide)).o o2 (by decide)
  · rw [o2 0 (by decide), i1, e2, a5.1]
  · rw [k2, o1 55 (by decide)]
    exact ⟨(k1.o o2 (by decide)).cg (laN_lt a2.i0) (laN_lt a2.i1) (fun p hp => if_pos hp), a2.cg (fun p hp => if_pos hp)⟩
theorem st_fits {l : Launch} {E : sk_V} {d : Nat} {h : sk_M} {s : Int32} {w : Int32} (H : Inv h) : sk_K l E (d + 200) MX7_fits [.ref 0, .int s, .int w] h (fun r h1 => ∃ v1, some (.int v1) = r ∧ sk_K l E (d + 200) MX8_fits [.ref 54, .int s, .int w] h1 (fun r2 h2 => ∃ w1, some (.int w1) = r2 ∧ Inv h2)) :=
  st_any H (cP_fits (d := d + 192) H.1 H.2.1 H.2.2.1) (fun h1 o1 => by
    have f55 : h1 55 = h 55 := o1 55 (by decide)
    have f58 : h1 58 = h 58 := o1 58 (by decide)
    have f59 : h1 59 = h 59 := o1 59 (by decide)
    have f60 : h1 60 = h 60 := o1 60 (by decide)
    have shi : shI h1 := fun j hj => by
      obtain ⟨-, -, ⟨len, l24, e1, -⟩, -⟩ := (H.2.2.1.o o1 (by decide)) j hj
      unfold shN
      rw [e1, nI_clamp (by omega)]
      exact ⟨rfl, l24⟩
    have boi : boI (h1 55) := by rw [f55]; exact H.2.1.b
    have i0 : lawI (h1 55) 0 := by rw [f55]; exact H.2.1.i0
    rw [← f55]
    refine (cM_fits (l := l) (E := E) (d := d + 193) (h := h1) (s := s) (w := w) boi i0 shi).mono (fun r h2 q => ?_)
    rcases q with ⟨c, q⟩ | ⟨j, hj, rfl, c, ⟨c2, q⟩ | ⟨c2, ⟨c3, ho, rfl⟩ | ⟨c3, c4, q⟩ | ⟨c3, c4, ho, rfl⟩⟩⟩
    · exact ⟨_, oM.er q⟩
    · exact ⟨_, oM.er q⟩
    · exact ⟨_, oM.o (ho.more (by decide)) rfl⟩
    · exact ⟨_, oM.T q⟩
    · exact ⟨_, oM.o (ho.more (by decide)) rfl⟩) H.2.1
theorem st_judge {l : Launch} {E : sk_V} {d : Nat} {h : sk_M} {s : Int32} (H : Inv h) : sk_K l E (d + 200) MX7_judge [.ref 0, .int s] h (fun r h1 => ∃ v1, some (.int v1) = r ∧ sk_K l E (d + 200) MX8_judge [.ref 54, .int s] h1 (fun r2 h2 => ∃ w1, some (.int w1) = r2 ∧ Inv h2)) :=
  st_any H (cP_judge (d := d + 192) H.1 H.2.1 H.2.2.1) (fun h1 o1 => by
    have f55 : h1 55 = h 55 := o1 55 (by decide)
    have f58 : h1 58 = h 58 := o1 58 (by decide)
    have f59 : h1 59 = h 59 := o1 59 (by decide)
    have f60 : h1 60 = h 60 := o1 60 (by decide)
    have shi : shI h1 := fun j hj => by
      obtain ⟨-, -, ⟨len, l24, e1, -⟩, -⟩ := (H.2.2.1.o o1 (by decide)) j hj
      unfold shN
      rw [e1, nI_clamp (by omega)]
      exact ⟨rfl, l24⟩
    have boi : boI (h1 55) := by rw [f55]; exact H.2.1.b
    have i0 : lawI (h1 55) 0 := by rw [f55]; exact H.2.1.i0
    rw [← f55]
    refine (cM_judge (l := l) (E := E) (d := d + 193) (h := h1) (s := s) boi i0 shi).mono (fun r h2 q => ?_)
    rcases q with ⟨c, q⟩ | ⟨j, hj, rfl, c, ho, rfl⟩
    · exact ⟨_, oM.er q⟩
    · exact ⟨_, oM.o (ho.more (by decide)) rfl⟩) H.2.1
theorem st_told {l : Launch} {E : sk_V} {d : Nat} {h : sk_M} {k : Int32} (H : Inv h) : sk_K l E (d + 200) MX7_told [.ref 0, .int k] h (fun r h1 => ∃ v1, some (.int v1) = r ∧ sk_K l E (d + 200) MX8_told [.ref 54, .int k] h1 (fun r2 h2 => ∃ w1, some (.int w1) = r2 ∧ Inv h2)) :=
  st_any H (cP_told (d := d + 195) H.1) (fun h1 o1 => by
    have f55 : h1 55 = h 55 := o1 55 (by decide)
    have f58 : h1 58 = h 58 := o1 58 (by decide)
    have f59 : h1 59 = h 59 := o1 59 (by decide)
    have f60 : h1 60 = h 60 := o1 60 (by decide)
    have shi : shI h1 := fun j hj => by
      obtain ⟨-, -, ⟨len, l24, e1, -⟩, -⟩ := (H.2.2.1.o o1 (by decide)) j hj
      unfold shN
      rw [e1, nI_clamp (by omega)]
      exact ⟨rfl, l24⟩
    have boi : boI (h1 55) := by rw [f55]; exact H.2.1.b
    have i0 : lawI (h1 55) 0 := by rw [f55]; exact H.2.1.i0
    rw [← f55]
    refine (cM_told (l := l) (E := E) (d := d + 199) (h := h1) (k := k) ).mono (fun r h2 q => ?_)
    rcases q with ⟨j, h1j, h6j, rfl, rfl, rfl⟩ | ⟨c, q⟩
    · exact ⟨_, oM.o sk_o.rf rfl⟩
    · exact ⟨_, oM.er q⟩) H.2.1
theorem shK_ref {l : Launch} {E : sk_V} {d : Nat} {h : sk_M} {s b n : Int32} : sk_K l E (d + 2) MX8_sheet [.ref 54, .int s, .int b, .int n] h (fun r h1 => (¬ shK s b n = 0 ∧ erM h (shK s b n) h1 r) ∨ (shK s b n = 0 ∧ ∃ j, j < 4 ∧ s = nI j ∧ okB b ∧ (b = 0 ∨ inN n 25) ∧ sk_o [58, 59, 60] h h1 ∧ h1 58 = upd (h 58) j b ∧ h1 59 = upd (h 59) j (if b = 0 then 0 else n) ∧ h1 60 = clrN (h 60) (24 * j) 24 ∧ some (.int 1) = r)) := by
  refine cM_sheet.mono (fun r h1 q => ?_)
  rcases q with ⟨c, q⟩ | ⟨j, hj, rfl, hb, ⟨c1, c2, q⟩ | ⟨c1, c2, c3, q⟩ | ⟨c1, q⟩⟩
  · have hk : shK s b n = 1 := cif_f c
    exact Or.inl ⟨by rw [hk]; decide, by rw [hk]; exact q⟩
  · have hk : shK (nI j) b n = 3 := by
      unfold shK
      rw [cif_t ⟨⟨j, hj, rfl⟩, hb⟩, cif_t ⟨c1, c2⟩]
    exact Or.inl ⟨by rw [hk]; decide, by rw [hk]; exact q⟩
  · have hk : shK (nI j) b n = 1 := by
      unfold shK
      rw [cif_t ⟨⟨j, hj, rfl⟩, hb⟩, cif_f (fun z => c2 z.2), cif_t ⟨c1, c3⟩]
    exact Or.inl ⟨by rw [hk]; decide, by rw [hk]; exact q⟩
  · have hk : shK (nI j) b n = 0 := by
      unfold shK
      rw [cif_t ⟨⟨j, hj, rfl⟩, hb⟩]
      by_cases q0 : b = 0
      · rw [cif_f (fun z => z.1 q0), cif_f (fun z => z.1 q0)]
      · have y := (inN_le (x := n) (M := 24) (n := 25) (by decide)).mpr (c1.resolve_left q0)
        rw [cif_f (fun z => absurd y.1 (Int32.not_le.mpr z.2)), cif_f (fun z => absurd y.2 (Int32.not_le.mpr z.2))]
    exact Or.inr ⟨hk, j, hj, rfl, hb, c1, q⟩
theorem st_sheet {l : Launch} {E : sk_V} {d : Nat} {h : sk_M} {s b n : Int32} (H : Inv h) : sk_K l E (d + 200) MX7_sheet [.ref 0, .int s, .int b, .int n] h (fun r h1 => ∃ v1, some (.int v1) = r ∧ sk_K l E (d + 200) MX8_sheet [.ref 54, .int s, .int b, .int n] h1 (fun r2 h2 => ∃ w1, some (.int w1) = r2 ∧ Inv h2 ∧ v1 = w1)) := by
  refine st_J (P := fun h1 r => (¬ shK s b n = 0 ∧ erC h (shK s b n) h1 r) ∨ (∃ j, j < 4 ∧ s = nI j ∧ okB b ∧ (b = 0 ∨ inN n 25) ∧ shK s b n = 0 ∧ layC h j b (if b = 0 then 0 else n) = h1 ∧ some (.int 1) = r)) (Q := fun h1 h2 r => (¬ shK s b n = 0 ∧ erM h1 (shK s b n) h2 r) ∨ (shK s b n = 0 ∧ ∃ j, j < 4 ∧ s = nI j ∧ okB b ∧ (b = 0 ∨ inN n 25) ∧ sk_o [58, 59, 60] h1 h2 ∧ h2 58 = upd (h1 58) j b ∧ h2 59 = upd (h1 59) j (if b = 0 then 0 else n) ∧ h2 60 = clrN (h1 60) (24 * j) 24 ∧ some (.int 1) = r)) (cP_sheet (d := d + 195)) (fun h1 r q => shK_ref (d := d + 198)) (fun h1 r q => ?_) (fun h1 h2 r r2 q q2 => ?_)
  · rcases q with ⟨-, -, e⟩ | ⟨-, -, -, -, -, -, -, e⟩
    · exact ⟨_, e⟩
    · exact ⟨_, e⟩
  · rcases q with ⟨c, q⟩ | ⟨j, hj, ej, hb, hn, c, eL, rfl⟩
    · rcases q2 with ⟨-, q2⟩ | ⟨c2, -⟩
      · exact H.er q q2
      · exact absurd c2 c
    · rcases q2 with ⟨c2, -⟩ | ⟨-, j2, hj2, ej2, -, -, om, e58, e59, e60, rfl⟩
      · exact absurd c c2
      · have e : j2 = j := nI_inj (by omega) (by omega) (ej2.symm.trans ej)
        subst e
        exact ⟨H.sh (by rw [← eL]; exact layC_o hj) (om.more (by decide)) (H.2.2.1.lay hj hb hn eL om e58 e59 e60), rfl, _, rfl⟩
theorem st_put {l : Launch} {E : sk_V} {d : Nat} {h : sk_M} {s i v : Int32} (H : Inv h) : sk_K l E (d + 200) MX7_put [.ref 0, .int s, .int i, .int v] h (fun r h1 => ∃ v1, some (.int v1) = r ∧ sk_K l E (d + 200) MX8_put [.ref 54, .int s, .int i, .int v] h1 (fun r2 h2 => ∃ w1, some (.int w1) = r2 ∧ Inv h2 ∧ v1 = w1)) := by
  have shi : ∀ h1 : sk_M, sk_o SHl h h1 → shI h1 := fun h1 o1 j hj => by
    obtain ⟨-, -, ⟨len, l24, e1, -⟩, -⟩ := H.2.2.1 j hj
    unfold shN
    rw [o1 59 (by decide), e1, nI_clamp (by omega)]
    exact ⟨rfl, l24⟩
  have oS : ∀ (h1 : sk_M) (r : Option Value), ((¬ ntK h s = 0 ∧ erC h (ntK h s) h1 r) ∨ (∃ j, j < 4 ∧ s = nI j ∧ ¬ h 58 j = 0 ∧ ntK h s = 0 ∧ ((¬ inN i (shN h j) ∧ erC h 1 h1 r) ∨ (∃ q, q < shN h j ∧ i = nI q ∧ sk_u h (11 + j) q (loV (h 58 j) v) = h1 ∧ some (.int 1) = r)))) → sk_o SHl h h1 := by
    intro h1 r q
    rcases q with ⟨-, rfl, -⟩ | ⟨j, hj, -, -, -, ⟨-, rfl, -⟩ | ⟨q, -, -, rfl, -⟩⟩
    · exact sk_o.rf.u (by decide)
    · exact sk_o.rf.u (by decide)
    · exact sk_o.rf.u (shl_in hj).2
  refine st_J (P := fun h1 r => (¬ ntK h s = 0 ∧ erC h (ntK h s) h1 r) ∨ (∃ j, j < 4 ∧ s = nI j ∧ ¬ h 58 j = 0 ∧ ntK h s = 0 ∧ ((¬ inN i (shN h j) ∧ erC h 1 h1 r) ∨ (∃ q, q < shN h j ∧ i = nI q ∧ sk_u h (11 + j) q (loV (h 58 j) v) = h1 ∧ some (.int 1) = r)))) (Q := fun h1 h2 r => (¬ ntK h1 s = 0 ∧ erM h1 (ntK h1 s) h2 r) ∨ (∃ j, j < 4 ∧ s = nI j ∧ ¬ h1 58 j = 0 ∧ ((¬ inN i (shN h1 j) ∧ erM h1 1 h2 r) ∨ (∃ q, q < shN h1 j ∧ i = nI q ∧ sk_u h1 60 (24 * j + q) (ptV (h1 58 j) v) = h2 ∧ some (.int 1) = r)))) (cP_put (d := d + 195) H.2.2.1) (fun h1 r q => cM_put (d := d + 197) (shi h1 (oS h1 r q))) (fun h1 r q => ?_) (fun h1 h2 r r2 q q2 => ?_)
  · rcases q with ⟨-, -, e⟩ | ⟨-, -, -, -, -, ⟨-, -, e⟩ | ⟨-, -, -, -, e⟩⟩
    · exact ⟨_, e⟩
    · exact ⟨_, e⟩
    · exact ⟨_, e⟩
  · have o1 := oS h1 r q
    have f58 : h1 58 = h 58 := o1 58 (by decide)
    have f59 : h1 59 = h 59 := o1 59 (by decide)
    have fnt : ntK h1 s = ntK h s := by unfold ntK; rw [f58]
    have fsh : ∀ j, shN h1 j = shN h j := fun j => by unfold shN; rw [f59]
    rw [fnt] at q2
    rcases q with ⟨c, q⟩ | ⟨j, hj, ej, hb, c, q⟩
    · rcases q2 with ⟨-, q2⟩ | ⟨j2, hj2, ej2, hb2, -⟩
      · exact H.er q q2
      · refine absurd ?_ c
        unfold ntK
        rw [if_pos ⟨j2, hj2, ej2⟩, ej2, nI_clamp (by omega), if_neg (by rw [← f58]; exact hb2)]
    · rcases q2 with ⟨c2, -⟩ | ⟨j2, hj2, ej2, hb2, q2⟩
      · exact absurd c c2
      · have e : j2 = j := nI_inj (by omega) (by omega) (ej2.symm.trans ej)
        subst e
        rw [fsh] at q2
        rcases q with ⟨n1, q⟩ | ⟨k, hk, ek, eu, rfl⟩
        · rcases q2 with ⟨-, q2⟩ | ⟨k2, hk2, ek2, -⟩
          · exact H.er q q2
          · exact absurd ⟨k2, hk2, ek2⟩ n1
        · rcases q2 with ⟨n2, -⟩ | ⟨k2, hk2, ek2, eu2, rfl⟩
          · exact absurd ⟨k, hk, ek⟩ n2
          · obtain ⟨-, -, ⟨len, l24, e1, -⟩, -⟩ := H.2.2.1 j2 hj
            have hl : shN h j2 = len := by unfold shN; rw [e1, nI_clamp (by omega)]
            have e : k2 = k := nI_inj (by omega) (by omega) (ek2.symm.trans ek)
            subst e
            exact ⟨H.sh o1 (by rw [← eu2]; exact sk_o.rf.u (by decide)) (H.2.2.1.put hj (by omega) eu eu2), rfl, _, rfl⟩
theorem st_move {l : Launch} {E : sk_V} {d : Nat} {h : sk_M} {s i t j n : Int32} (H : Inv h) : sk_K l E (d + 200) MX7_move [.ref 0, .int s, .int i, .int t, .int j, .int n] h (fun r h1 => ∃ v1, some (.int v1) = r ∧ sk_K l E (d + 200) MX8_move [.ref 54, .int s, .int i, .int t, .int j, .int n] h1 (fun r2 h2 => ∃ w1, some (.int w1) = r2 ∧ Inv h2 ∧ v1 = w1)) := by
  have shi : ∀ h1 : sk_M, sk_o SHl h h1 → shI h1 := fun h1 o1 j hj => by
    obtain ⟨-, -, ⟨len, l24, e1, -⟩, -⟩ := H.2.2.1 j hj
    unfold shN
    rw [o1 59 (by decide), e1, nI_clamp (by omega)]
    exact ⟨rfl, l24⟩
  have oS : ∀ (h1 : sk_M) (r : Option Value), ((¬ (mvK h s i t j n) = 0 ∧ erC h (mvK h s i t j n) h1 r) ∨ ((mvK h s i t j n) = 0 ∧ ∃ a b x y w : Nat, a < 4 ∧ b < 4 ∧ s = nI a ∧ t = nI b ∧ i = nI x ∧ j = nI y ∧ n = nI w ∧ h 58 a = h 58 b ∧ x + w ≤ shN h a ∧ y + w ≤ shN h b ∧ sk_r h (11 + b) (va_cpy (h (11 + a)) (h (11 + b)) x y w) = h1 ∧ some (.int (nI w)) = r)) → sk_o SHl h h1 := by
    intro h1 r q
    rcases q with ⟨-, rfl, -⟩ | ⟨-, a, b, x, y, w, -, hb, -, -, -, -, -, -, -, -, rfl, -⟩
    · exact sk_o.rf.u (by decide)
    · exact sk_o.rf.r (shl_in hb).2
  refine st_J (P := fun h1 r => (¬ (mvK h s i t j n) = 0 ∧ erC h (mvK h s i t j n) h1 r) ∨ ((mvK h s i t j n) = 0 ∧ ∃ a b x y w : Nat, a < 4 ∧ b < 4 ∧ s = nI a ∧ t = nI b ∧ i = nI x ∧ j = nI y ∧ n = nI w ∧ h 58 a = h 58 b ∧ x + w ≤ shN h a ∧ y + w ≤ shN h b ∧ sk_r h (11 + b) (va_cpy (h (11 + a)) (h (11 + b)) x y w) = h1 ∧ some (.int (nI w)) = r)) (Q := fun h1 h2 r => (¬ (mvK h1 s i t j n) = 0 ∧ erM h1 (mvK h1 s i t j n) h2 r) ∨ ((mvK h1 s i t j n) = 0 ∧ ∃ a b x y w : Nat, a < 4 ∧ b < 4 ∧ s = nI a ∧ t = nI b ∧ i = nI x ∧ j = nI y ∧ n = nI w ∧ ¬ h1 58 a = 0 ∧ h1 58 a = h1 58 b ∧ x + w ≤ shN h1 a ∧ y + w ≤ shN h1 b ∧ sk_o [60] h1 h2 ∧ h2 60 = mvR (h1 60) (24 * a + x) (24 * b + y) w ∧ some (.int (nI w)) = r)) (cP_move (d := d + 195) H.2.2.1) (fun h1 r q => cM_move (d := d + 197) (shi h1 (oS h1 r q))) (fun h1 r q => ?_) (fun h1 h2 r r2 q q2 => ?_)
  · rcases q with ⟨-, -, e⟩ | ⟨-, a, b, x, y, w, -, -, -, -, -, -, -, -, -, -, -, e⟩
    · exact ⟨_, e⟩
    · exact ⟨_, e⟩
  · have o1 := oS h1 r q
    have f58 : h1 58 = h 58 := o1 58 (by decide)
    have f59 : h1 59 = h 59 := o1 59 (by decide)
    have fsh : ∀ j, shN h1 j = shN h j := fun j => by unfold shN; rw [f59]
    have fmk : mvK h1 s i t j n = mvK h s i t j n := by
      have es : shN h1 = shN h := funext fsh
      unfold mvK
      rw [f58, es]
    rw [fmk] at q2
    rcases q with ⟨c, q⟩ | ⟨c, a, b, x, y, w, ha, hb, rfl, rfl, rfl, rfl, rfl, eab, hx, hy, eu, rfl⟩
    · rcases q2 with ⟨-, q2⟩ | ⟨c2, -⟩
      · exact H.er q q2
      · exact absurd c2 c
    · rcases q2 with ⟨c2, -⟩ | ⟨-, a2, b2, x2, y2, w2, ha2, hb2, ea, eb, ex, ey, ew, -, -, hx2, hy2, om, e60, rfl⟩
      · exact absurd c c2
      · rw [fsh] at hx2 hy2
        obtain ⟨-, -, ⟨la, la24, e1, -⟩, -⟩ := H.2.2.1 a ha
        obtain ⟨-, -, ⟨lb, lb24, e2, -⟩, -⟩ := H.2.2.1 b hb
        have hla : shN h a = la := by unfold shN; rw [e1, nI_clamp (by omega)]
        have hlb : shN h b = lb := by unfold shN; rw [e2, nI_clamp (by omega)]
        obtain rfl : a2 = a := nI_inj (by omega) (by omega) ea.symm
        obtain rfl : b2 = b := nI_inj (by omega) (by omega) eb.symm
        obtain rfl : x2 = x := nI_inj (by omega) (by omega) ex.symm
        obtain rfl : y2 = y := nI_inj (by omega) (by omega) ey.symm
        obtain rfl : w2 = w := nI_inj (by omega) (by omega) ew.symm
        exact ⟨H.sh o1 (om.more (by decide)) (H.2.2.1.mov ha hb (by omega) (by omega) eab eu om e60), rfl, _, rfl⟩
theorem cP_voice {l : Launch} {E : sk_V} {d : Nat} {h : sk_M} {b v x : Int32} (H : Inv h) : sk_K l E (d + 19) MX7_voice [.ref 0, .int b, .int v, .int x] h (fun r h1 => (¬ (inN b (boN (h 55)) ∧ inN v 4) ∧ erC h 1 h1 r) ∨ (∃ j i, j < boN (h 55) ∧ b = nI j ∧ i < 4 ∧ v = nI i ∧ sk_o [4, 6, 17] h h1 ∧ h1 4 1 = nI (voB i (h 55 (17 + 3 * j)) (h 55 (17 + 3 * j + 1)) (nI j)).length ∧ h1 17 = appT (h 17) 0 (voB i (h 55 (17 + 3 * j)) (h 55 (17 + 3 * j + 1)) (nI j)) ∧ some (.int (cif (i = 3 ∧ (h 55 (17 + 3 * j + 1) - nI j = 0)) (erI 6) (voV i (h 55 (17 + 3 * j)) (h 55 (17 + 3 * j + 1)) (nI j) x))) = r)) := by
  by_cases c : inN b (boN (h 55)) ∧ inN v 4
  · obtain ⟨⟨j, hj, rfl⟩, ⟨i, hi, rfl⟩⟩ := c
    have h6 := H.2.1.b.2
    by_cases p : (i = 3 ∧ (h 55 (17 + 3 * j + 1) - nI j = 0))
    · refine (cP_voice_p (d := d) H.1 H.2.1 hj (by omega) hi p).mono (fun r h1 q => Or.inr ⟨j, i, hj, rfl, hi, rfl, ?_⟩)
      rw [cif_t p]
      exact q
    · refine (cP_voice_o (d := d) H.1 H.2.1 hj (by omega) hi p).mono (fun r h1 q => Or.inr ⟨j, i, hj, rfl, hi, rfl, ?_⟩)
      rw [cif_f p]
      exact q
  · exact (cP_voice_e (d := d + 14) H.1 H.2.1 c).mono (fun r h1 q => Or.inl ⟨c, q⟩)
theorem st_voice {l : Launch} {E : sk_V} {d : Nat} {h : sk_M} {b v x : Int32} (H : Inv h) : sk_K l E (d + 200) MX7_voice [.ref 0, .int b, .int v, .int x] h (fun r h1 => ∃ v1, some (.int v1) = r ∧ sk_K l E (d + 200) MX8_voice [.ref 54, .int b, .int v, .int x] h1 (fun r2 h2 => ∃ w1, some (.int w1) = r2 ∧ Inv h2 ∧ v1 = w1)) := by
  have oS : ∀ (h1 : sk_M) (r : Option Value), ((¬ (inN b (boN (h 55)) ∧ inN v 4) ∧ erC h 1 h1 r) ∨ (∃ j i, j < boN (h 55) ∧ b = nI j ∧ i < 4 ∧ v = nI i ∧ sk_o [4, 6, 17] h h1 ∧ h1 4 1 = nI (voB i (h 55 (17 + 3 * j)) (h 55 (17 + 3 * j + 1)) (nI j)).length ∧ h1 17 = appT (h 17) 0 (voB i (h 55 (17 + 3 * j)) (h 55 (17 + 3 * j + 1)) (nI j)) ∧ some (.int (cif (i = 3 ∧ (h 55 (17 + 3 * j + 1) - nI j = 0)) (erI 6) (voV i (h 55 (17 + 3 * j)) (h 55 (17 + 3 * j + 1)) (nI j) x))) = r)) → sk_o [4, 6, 17] h h1 := by
    intro h1 r q
    rcases q with ⟨-, rfl, -⟩ | ⟨-, -, -, -, -, -, q, -⟩
    · exact sk_o.rf.u (by decide)
    · exact q
  refine st_J (P := fun h1 r => (¬ (inN b (boN (h 55)) ∧ inN v 4) ∧ erC h 1 h1 r) ∨ (∃ j i, j < boN (h 55) ∧ b = nI j ∧ i < 4 ∧ v = nI i ∧ sk_o [4, 6, 17] h h1 ∧ h1 4 1 = nI (voB i (h 55 (17 + 3 * j)) (h 55 (17 + 3 * j + 1)) (nI j)).length ∧ h1 17 = appT (h 17) 0 (voB i (h 55 (17 + 3 * j)) (h 55 (17 + 3 * j + 1)) (nI j)) ∧ some (.int (cif (i = 3 ∧ (h 55 (17 + 3 * j + 1) - nI j = 0)) (erI 6) (voV i (h 55 (17 + 3 * j)) (h 55 (17 + 3 * j + 1)) (nI j) x))) = r)) (Q := fun h1 h2 r => (¬ (inN b (boN (h1 55)) ∧ inN v 4) ∧ erM h1 1 h2 r) ∨ (∃ j, j < boN (h1 55) ∧ b = nI j ∧ ∃ i, i < 4 ∧ v = nI i ∧ ∃ (g : sk_M) (p : Int32), trQ h1 g 0 (voB i (h1 55 (17 + 3 * j)) (h1 55 (17 + 3 * j + 1)) (nI j)) p ∧ ((i = 3 ∧ (h1 55 (17 + 3 * j + 1) - nI j = 0) ∧ erM g 6 h2 r) ∨ (¬ (i = 3 ∧ (h1 55 (17 + 3 * j + 1) - nI j = 0)) ∧ g = h2 ∧ some (.int (voV i (h1 55 (17 + 3 * j)) (h1 55 (17 + 3 * j + 1)) (nI j) x)) = r)))) (cP_voice (d := d + 181) H) (fun h1 r q => cM_voice (d := d + 191) (by rw [oS h1 r q 55 (by decide)]; exact H.2.1.b)) (fun h1 r q => ?_) (fun h1 h2 r r2 q q2 => ?_)
  · rcases q with ⟨-, -, e⟩ | ⟨j, i, _, _, _, _, _, _, _, e⟩
    · exact ⟨_, e⟩
    · exact ⟨_, e⟩
  · have o1 := oS h1 r q
    have f55 : h1 55 = h 55 := o1 55 (by decide)
    rw [f55] at q2
    rcases q with ⟨c, q⟩ | ⟨j, i, hj, ej, hi, ei, -, a1, a2, rfl⟩
    · rcases q2 with ⟨-, q2⟩ | ⟨j, hj, ej, i, hi, ei, -⟩
      · exact H.er q q2
      · exact absurd ⟨⟨j, hj, ej⟩, ⟨i, hi, ei⟩⟩ c
    · rcases q2 with ⟨c, -⟩ | ⟨j2, hj2, ej2, i2, hi2, ei2, g, p, ⟨t1, t2, t3, t4, t5⟩, q2⟩
      · exact absurd ⟨⟨j, hj, ej⟩, ⟨i, hi, ei⟩⟩ c
      · have h6 := H.2.1.b.2
        obtain rfl : j2 = j := nI_inj (by omega) (by omega) (ej2.symm.trans ej)
        obtain rfl : i2 = i := nI_inj (by omega) (by omega) (ei2.symm.trans ei)
        rw [Nat.zero_add] at t2
        have vo : voQ g := by
          refine ⟨(voB i2 (h 55 (17 + 3 * j2)) (h 55 (17 + 3 * j2 + 1)) (nI j2)).length, vo_len, by rw [t1 4 (by decide)]; exact a1, t2, fun k hk => ?_⟩
          rw [t1 17 (by decide), a2, t5]
          exact appT_at _ 0 k (Nat.zero_le _) (by omega)
        rcases q2 with ⟨p1, p2, ⟨rfl, rfl⟩⟩ | ⟨p1, rfl, rfl⟩
        · rw [cif_t ⟨p1, p2⟩]
          have o57 : sk_o [57] g (sk_u g 57 6 (g 57 6 + 1)) := sk_o.rf.u (by decide)
          exact ⟨H.vo o1 ((t1.more (by decide)).tr (o57.more (by decide))) (by rw [o57 54 (by decide)]; exact t4 2 (by decide) (by decide)) (vo.o o57 (by decide) (by rw [o57 54 (by decide)])), rfl, _, rfl⟩
        · rw [cif_f p1]
          exact ⟨H.vo o1 (t1.more (by decide)) (t4 2 (by decide) (by decide)) vo, rfl, _, rfl⟩
end S1
