section SPEC
/-- a table's branches, by number -/
theorem sk_S.tabL {l : Launch} {E : sk_V} {d : Nat} {M : sk_m} {pc : Nat} {L : List (Option Value)} {St : List Value} {h : sk_M} {Q : Option Value → sk_M → Prop} {dflt lo hi : Int} {offs : Array Int} {len : Nat} {x : Int32} (hd : decode M.2.1 pc = .ok (.tableswitch dflt lo hi offs, len)) (hs : hi = lo + (offs.size : Int) - 1) (hr : -2147483648 ≤ lo ∧ hi < 2147483648) (hp : (offs.toList.all (fun o => decide (0 ≤ (pc : Int) + o))) = true) (hp0 : 0 ≤ (pc : Int) + dflt)
    (k : ∀ j : Nat, j < offs.size → x = Int32.ofInt (lo + (j : Int)) → sk_S l E d M ((pc : Int) + offs.getD j 0).toNat L St h Q) (k0 : (∀ j : Nat, j < offs.size → ¬ x = Int32.ofInt (lo + (j : Int))) → sk_S l E d M ((pc : Int) + dflt).toNat L St h Q) : sk_S l E d M pc L (.int x :: St) h Q := by
  by_cases h1 : x.toInt < lo ∨ hi < x.toInt
  · refine sk_S.tableOut hd h1 (tgt := ((pc : Int) + dflt).toNat) (by omega) (k0 (fun j hj e => ?_))
    have e2 : x.toInt = lo + (j : Int) := by rw [e, Int32.toInt_ofInt_of_le (by omega) (by omega)]
    omega
  · have hj : (x.toInt - lo).toNat < offs.size := by omega
    have hv : offs[(x.toInt - lo).toNat]? = some (offs.getD (x.toInt - lo).toNat 0) := by
      rw [Array.getD_eq_getD_getElem?, Array.getElem?_eq_getElem hj]; rfl
    have hpos : 0 ≤ (pc : Int) + offs.getD (x.toInt - lo).toNat 0 := by
      have h2 := List.all_eq_true.mp hp (offs.getD (x.toInt - lo).toNat 0) (Array.mem_toList_iff.mpr (Array.mem_of_getElem? hv))
      exact of_decide_eq_true h2
    refine sk_S.tableIn hd (fun q => h1 (Or.inl q)) (fun q => h1 (Or.inr q)) hv (tgt := ((pc : Int) + offs.getD (x.toInt - lo).toNat 0).toNat) (by omega) (k _ hj ?_)
    apply Int32.toInt_inj.mp
    rw [Int32.toInt_ofInt_of_le (by omega) (by omega)]
    omega
/-- what a boat of a kind hauls -/
def haulsV (k m sea day f : Int32) : Int32 :=
  if k = 1 then 5 + m - sea + 5 else if k = 2 then (5 + m - sea) / 2 else if k = 3 then (if f = m - m / 4 * 4 then 2 * (5 + m - sea) else (5 + m - sea) / 2)
  else if k = 4 then 5 + m - sea + 5 + (day - day / 5 * 5) else if k = 5 then (if sea ≤ 6 then (5 + m - sea) / 2 + f else 0) else if k = 6 then 20 - m - 2 * sea - f else 5 + m - sea
def eatsV (k day : Int32) : Int32 :=
  if k = 1 then 2 else if k = 2 then 1 else if k = 3 then 1 + (day - day / 2 * 2) else if k = 4 then 4 else if k = 5 then 0 else if k = 6 then 4 else 1
def heldV (v a b : Int32) : Int32 := if v < a then a else if b < v then b else v
theorem sk_ix_e {x : Int32} {k n : Nat} (e : x = nI k) (hk : k < n) (hn : n < 2147483648) : sk_ix x k n := sk_ix_nI e hk hn
theorem ix_of (j w : Nat) : (17 : Int32) + 3 * nI j + nI w = nI (17 + 3 * j + w) := by
  show nI 17 + nI 3 * nI j + nI w = _
  rw [nI_mul, nI_add, nI_add]
theorem ix_er {x : Int32} {k : Nat} (h : -1000000000 - x = nI k) (hk : k < 7) : sk_ix (-1000000000 - x) k 7 := sk_ix_nI h hk (by decide)
end SPEC
