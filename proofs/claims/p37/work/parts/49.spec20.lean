section SPEC20
def sgL : List Int32 := [124, 38, 60, 61, 62, 43, 45, 42, 47, 37]
theorem heldC {v a b : Int32} (hab : a ≤ b) : (if a < (if v < b then v else b) then (if v < b then v else b) else a) = heldV v a b := by
  unfold heldV
  simp only [Int32.lt_iff_toInt_lt, Int32.le_iff_toInt_le] at *
  (repeat' split) <;> first | rfl | (exfalso; omega) | (apply Int32.toInt_inj.mp; omega)
end SPEC20
