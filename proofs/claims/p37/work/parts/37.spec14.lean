section SPEC14
theorem lk_off {x : Int32} {d : Int} : ∀ l : List (Int × Int), (∀ q ∈ l, -2147483648 ≤ q.1 ∧ q.1 < 2147483648) → (∃ (i : Nat) (q : Int × Int), l[i]? = some q ∧ x = Int32.ofInt q.1 ∧ Op.lookupswitch.offset l d x.toInt = q.2) ∨ ((∀ q ∈ l, ¬ x = Int32.ofInt q.1) ∧ Op.lookupswitch.offset l d x.toInt = d)
  | [], _ => Or.inr ⟨fun _ h => absurd h List.not_mem_nil, rfl⟩
  | (a, o) :: r, hr => by
    have ih := lk_off (x := x) (d := d) r (fun q hq => hr q (List.mem_cons_of_mem _ hq))
    have ha := hr (a, o) List.mem_cons_self
    rw [Op.lookupswitch.offset_cons]
    by_cases e : x = Int32.ofInt a
    · have e2 : x.toInt = a := by rw [e, Int32.toInt_ofInt_of_le (by omega) (by omega)]
      refine Or.inl ⟨0, (a, o), rfl, e, ?_⟩
      simp [e2]
    · have e2 : ¬ x.toInt = a := fun q => e (Int32.toInt_inj.mp (by rw [q, Int32.toInt_ofInt_of_le (by omega) (by omega)]))
      have e3 : ¬ a = x.toInt := fun q => e2 q.symm
      rcases ih with ⟨i, q, h1, h2, h3⟩ | ⟨h1, h2⟩
      · refine Or.inl ⟨i + 1, q, by simpa using h1, h2, ?_⟩
        simp [e2, e3, h3]
      · refine Or.inr ⟨fun q hq => ?_, ?_⟩
        · rcases List.mem_cons.mp hq with rfl | hq
          · exact e
          · exact h1 q hq
        · simp [e2, e3, h2]
theorem sk_S.lookN {l : Launch} {E : sk_V} {d : Nat} {M : sk_m} {pc : Nat} {L : List (Option Value)} {St : List Value} {h : sk_M} {Q : Option Value → sk_M → Prop} {dflt : Int} {ps : Array (Int × Int)} {len : Nat} {x : Int32} (hd : decode M.2.1 pc = .ok (.lookupswitch dflt ps, len)) (hp : (ps.toList.zip (ps.toList.drop 1)).all (fun (a, next) => a.1 < next.1) = true) (hr : ps.toList.all (fun q => decide (-2147483648 ≤ q.1 ∧ q.1 < 2147483648 ∧ 0 ≤ (pc : Int) + q.2)) = true) (h0 : 0 ≤ (pc : Int) + dflt)
    (k : ∀ (i : Nat) (q : Int × Int), ps.toList[i]? = some q → x = Int32.ofInt q.1 → sk_S l E d M ((pc : Int) + q.2).toNat L St h Q) (k0 : (∀ q ∈ ps.toList, ¬ x = Int32.ofInt q.1) → sk_S l E d M ((pc : Int) + dflt).toNat L St h Q) : sk_S l E d M pc L (.int x :: St) h Q := by
  have hr2 : ∀ q ∈ ps.toList, -2147483648 ≤ q.1 ∧ q.1 < 2147483648 ∧ 0 ≤ (pc : Int) + q.2 := fun q hq => of_decide_eq_true (List.all_eq_true.mp hr q hq)
  rcases lk_off (x := x) (d := dflt) ps.toList (fun q hq => ⟨(hr2 q hq).1, (hr2 q hq).2.1⟩) with ⟨i, q, h1, h2, h3⟩ | ⟨h1, h3⟩
  · have h4 := (hr2 q (List.mem_of_getElem? h1)).2.2
    exact sk_S.lookup hd hp h3 (tgt := ((pc : Int) + q.2).toNat) (by omega) (k i q h1 h2)
  · exact sk_S.lookup hd hp h3 (tgt := ((pc : Int) + dflt).toNat) (by omega) (k0 h1)
end SPEC14
