section M2
set_option maxRecDepth 100000 in
set_option maxHeartbeats 4000000 in
theorem cM_twoOf {l : Launch} {E : sk_V} {d : Nat} {h : sk_M} {w x y : Int32}  : sk_K l E (d + 0) MX8_twoOf [.int w, .int x, .int y] h (fun r h1 => h = h1 ∧ some (.int (twoV w x y)) = r) := by
  refine sk_K.of (by decide +kernel) (Nat.le_of_ble_eq_true rfl) ?_
  show sk_S l E (d + 0) _ 0 [some (.int w), some (.int x), some (.int y)] [] h _
  refine sk_S.iload_n (i := 0) (dd DX8_twoOf 0 rfl) rfl rfl ?_
  refine sk_S.tabL (dd DX8_twoOf 1 rfl) rfl (by decide) (by decide) (by decide) (fun j1 hj1 e1 => ?_) (fun e1 => ?_)
  · rcases j1 with _ | _ | _ | _ | _ | _ | _ | _ | _ | _ | _ | _ | _ | _ | _ | _ | _ | _ | _ | _ | _ | _ | _ | _ | _ | _ | j1
    · show sk_S _ _ _ _ 144 _ _ _ _
      replace e1 : _ = (37 : Int32) := e1
      refine sk_S.iload_n (i := 2) (dd DX8_twoOf 22 rfl) rfl rfl ?_
      refine sk_S.if_ne (tgt := 152) (dd DX8_twoOf 23 rfl) (by decide) (fun c145 => ?_) (fun c145 => ?_)
      · refine sk_S.iload_n (i := 1) (dd DX8_twoOf 26 rfl) rfl rfl ?_
        refine sk_S.iload_n (i := 2) (dd DX8_twoOf 27 rfl) rfl rfl ?_
        refine sk_S.irem (dd DX8_twoOf 28 rfl) (by assumption) ?_
        refine sk_S.iret (dd DX8_twoOf 29 rfl) rfl rfl ?_
        refine ⟨rfl, ?_⟩
        first | simp [twoV, bi, *] | (simp only [← Int32.not_le] at *; simp [twoV, bi, *])
      · refine sk_S.iconst (v := 0) (dd DX8_twoOf 24 rfl) (by decide) ?_
        refine sk_S.goto (tgt := 155) (dd DX8_twoOf 25 rfl) (by decide) ?_
        refine sk_S.iret (dd DX8_twoOf 29 rfl) rfl rfl ?_
        refine ⟨rfl, ?_⟩
        first | simp [twoV, bi, *] | (simp only [← Int32.not_le] at *; simp [twoV, bi, *])
    · show sk_S _ _ _ _ 189 _ _ _ _
      replace e1 : _ = (38 : Int32) := e1
      refine sk_S.iload_n (i := 1) (dd DX8_twoOf 51 rfl) rfl rfl ?_
      refine sk_S.if_eq (tgt := 201) (dd DX8_twoOf 52 rfl) (by decide) (fun c190 => ?_) (fun c190 => ?_)
      · refine sk_S.iconst (v := 0) (dd DX8_twoOf 57 rfl) (by decide) ?_
        refine sk_S.iret (dd DX8_twoOf 58 rfl) rfl rfl ?_
        refine ⟨rfl, ?_⟩
        first | simp [twoV, bi, *] | (simp only [← Int32.not_le] at *; simp [twoV, bi, *])
      · refine sk_S.iload_n (i := 2) (dd DX8_twoOf 53 rfl) rfl rfl ?_
        refine sk_S.if_eq (tgt := 201) (dd DX8_twoOf 54 rfl) (by decide) (fun c194 => ?_) (fun c194 => ?_)
        · refine sk_S.iconst (v := 0) (dd DX8_twoOf 57 rfl) (by decide) ?_
          refine sk_S.iret (dd DX8_twoOf 58 rfl) rfl rfl ?_
          refine ⟨rfl, ?_⟩
          first | simp [twoV, bi, *] | (simp only [← Int32.not_le] at *; simp [twoV, bi, *])
        · refine sk_S.iconst (v := 1) (dd DX8_twoOf 55 rfl) (by decide) ?_
          refine sk_S.goto (tgt := 202) (dd DX8_twoOf 56 rfl) (by decide) ?_
          refine sk_S.iret (dd DX8_twoOf 58 rfl) rfl rfl ?_
          refine ⟨rfl, ?_⟩
          first | simp [twoV, bi, *] | (simp only [← Int32.not_le] at *; simp [twoV, bi, *])
    · show sk_S _ _ _ _ 203 _ _ _ _
      replace e1 : _ = (39 : Int32) := e1
      refine sk_S.iload_n (i := 1) (dd DX8_twoOf 59 rfl) rfl rfl ?_
      refine sk_S.if_ne (tgt := 211) (dd DX8_twoOf 60 rfl) (by decide) (fun c204 => ?_) (fun c204 => ?_)
      · refine sk_S.iconst (v := 1) (dd DX8_twoOf 63 rfl) (by decide) ?_
        refine sk_S.goto (tgt := 216) (dd DX8_twoOf 64 rfl) (by decide) ?_
        refine sk_S.iret (dd DX8_twoOf 66 rfl) rfl rfl ?_
        refine ⟨rfl, ?_⟩
        first | simp [twoV, bi, *] | (simp only [← Int32.not_le] at *; simp [twoV, bi, *])
      · refine sk_S.iload_n (i := 2) (dd DX8_twoOf 61 rfl) rfl rfl ?_
        refine sk_S.if_eq (tgt := 215) (dd DX8_twoOf 62 rfl) (by decide) (fun c208 => ?_) (fun c208 => ?_)
        · refine sk_S.iconst (v := 0) (dd DX8_twoOf 65 rfl) (by decide) ?_
          refine sk_S.iret (dd DX8_twoOf 66 rfl) rfl rfl ?_
          refine ⟨rfl, ?_⟩
          first | simp [twoV, bi, *] | (simp only [← Int32.not_le] at *; simp [twoV, bi, *])
        · refine sk_S.iconst (v := 1) (dd DX8_twoOf 63 rfl) (by decide) ?_
          refine sk_S.goto (tgt := 216) (dd DX8_twoOf 64 rfl) (by decide) ?_
          refine sk_S.iret (dd DX8_twoOf 66 rfl) rfl rfl ?_
          refine ⟨rfl, ?_⟩
          first | simp [twoV, bi, *] | (simp only [← Int32.not_le] at *; simp [twoV, bi, *])
    · show sk_S _ _ _ _ 203 _ _ _ _
      replace e1 : _ = (40 : Int32) := e1
      refine sk_S.iload_n (i := 1) (dd DX8_twoOf 59 rfl) rfl rfl ?_
      refine sk_S.if_ne (tgt := 211) (dd DX8_twoOf 60 rfl) (by decide) (fun c204 => ?_) (fun c204 => ?_)
      · refine sk_S.iconst (v := 1) (dd DX8_twoOf 63 rfl) (by decide) ?_
        refine sk_S.goto (tgt := 216) (dd DX8_twoOf 64 rfl) (by decide) ?_
        refine sk_S.iret (dd DX8_twoOf 66 rfl) rfl rfl ?_
        refine ⟨rfl, ?_⟩
        first | simp [twoV, bi, *] | (simp only [← Int32.not_le] at *; simp [twoV, bi, *])
      · refine sk_S.iload_n (i := 2) (dd DX8_twoOf 61 rfl) rfl rfl ?_
        refine sk_S.if_eq (tgt := 215) (dd DX8_twoOf 62 rfl) (by decide) (fun c208 => ?_) (fun c208 => ?_)
        · refine sk_S.iconst (v := 0) (dd DX8_twoOf 65 rfl) (by decide) ?_
          refine sk_S.iret (dd DX8_twoOf 66 rfl) rfl rfl ?_
          refine ⟨rfl, ?_⟩
          first | simp [twoV, bi, *] | (simp only [← Int32.not_le] at *; simp [twoV, bi, *])
        · refine sk_S.iconst (v := 1) (dd DX8_twoOf 63 rfl) (by decide) ?_
          refine sk_S.goto (tgt := 216) (dd DX8_twoOf 64 rfl) (by decide) ?_
          refine sk_S.iret (dd DX8_twoOf 66 rfl) rfl rfl ?_
          refine ⟨rfl, ?_⟩
          first | simp [twoV, bi, *] | (simp only [← Int32.not_le] at *; simp [twoV, bi, *])
    · show sk_S _ _ _ _ 203 _ _ _ _
      replace e1 : _ = (41 : Int32) := e1
      refine sk_S.iload_n (i := 1) (dd DX8_twoOf 59 rfl) rfl rfl ?_
      refine sk_S.if_ne (tgt := 211) (dd DX8_twoOf 60 rfl) (by decide) (fun c204 => ?_) (fun c204 => ?_)
      · refine sk_S.iconst (v := 1) (dd DX8_twoOf 63 rfl) (by decide) ?_
        refine sk_S.goto (tgt := 216) (dd DX8_twoOf 64 rfl) (by decide) ?_
        refine sk_S.iret (dd DX8_twoOf 66 rfl) rfl rfl ?_
        refine ⟨rfl, ?_⟩
        first | simp [twoV, bi, *] | (simp only [← Int32.not_le] at *; simp [twoV, bi, *])
      · refine sk_S.iload_n (i := 2) (dd DX8_twoOf 61 rfl) rfl rfl ?_
        refine sk_S.if_eq (tgt := 215) (dd DX8_twoOf 62 rfl) (by decide) (fun c208 => ?_) (fun c208 => ?_)
        · refine sk_S.iconst (v := 0) (dd DX8_twoOf 65 rfl) (by decide) ?_
          refine sk_S.iret (dd DX8_twoOf 66 rfl) rfl rfl ?_
          refine ⟨rfl, ?_⟩
          first | simp [twoV, bi, *] | (simp only [← Int32.not_le] at *; simp [twoV, bi, *])
        · refine sk_S.iconst (v := 1) (dd DX8_twoOf 63 rfl) (by decide) ?_
          refine sk_S.goto (tgt := 216) (dd DX8_twoOf 64 rfl) (by decide) ?_
          refine sk_S.iret (dd DX8_twoOf 66 rfl) rfl rfl ?_
          refine ⟨rfl, ?_⟩
          first | simp [twoV, bi, *] | (simp only [← Int32.not_le] at *; simp [twoV, bi, *])
    · show sk_S _ _ _ _ 128 _ _ _ _
      replace e1 : _ = (42 : Int32) := e1
      refine sk_S.iload_n (i := 1) (dd DX8_twoOf 10 rfl) rfl rfl ?_
      refine sk_S.iload_n (i := 2) (dd DX8_twoOf 11 rfl) rfl rfl ?_
      refine sk_S.imul (dd DX8_twoOf 12 rfl) ?_
      refine sk_S.iret (dd DX8_twoOf 13 rfl) rfl rfl ?_
      refine ⟨rfl, ?_⟩
      first | simp [twoV, bi, *] | (simp only [← Int32.not_le] at *; simp [twoV, bi, *])
    · show sk_S _ _ _ _ 120 _ _ _ _
      replace e1 : _ = (43 : Int32) := e1
      refine sk_S.iload_n (i := 1) (dd DX8_twoOf 2 rfl) rfl rfl ?_
      refine sk_S.iload_n (i := 2) (dd DX8_twoOf 3 rfl) rfl rfl ?_
      refine sk_S.iadd (dd DX8_twoOf 4 rfl) ?_
      refine sk_S.iret (dd DX8_twoOf 5 rfl) rfl rfl ?_
      refine ⟨rfl, ?_⟩
      first | simp [twoV, bi, *] | (simp only [← Int32.not_le] at *; simp [twoV, bi, *])
    · show sk_S _ _ _ _ 203 _ _ _ _
      replace e1 : _ = (44 : Int32) := e1
      refine sk_S.iload_n (i := 1) (dd DX8_twoOf 59 rfl) rfl rfl ?_
      refine sk_S.if_ne (tgt := 211) (dd DX8_twoOf 60 rfl) (by decide) (fun c204 => ?_) (fun c204 => ?_)
      · refine sk_S.iconst (v := 1) (dd DX8_twoOf 63 rfl) (by decide) ?_
        refine sk_S.goto (tgt := 216) (dd DX8_twoOf 64 rfl) (by decide) ?_
        refine sk_S.iret (dd DX8_twoOf 66 rfl) rfl rfl ?_
        refine ⟨rfl, ?_⟩
        first | simp [twoV, bi, *] | (simp only [← Int32.not_le] at *; simp [twoV, bi, *])
      · refine sk_S.iload_n (i := 2) (dd DX8_twoOf 61 rfl) rfl rfl ?_
        refine sk_S.if_eq (tgt := 215) (dd DX8_twoOf 62 rfl) (by decide) (fun c208 => ?_) (fun c208 => ?_)
        · refine sk_S.iconst (v := 0) (dd DX8_twoOf 65 rfl) (by decide) ?_
          refine sk_S.iret (dd DX8_twoOf 66 rfl) rfl rfl ?_
          refine ⟨rfl, ?_⟩
          first | simp [twoV, bi, *] | (simp only [← Int32.not_le] at *; simp [twoV, bi, *])
        · refine sk_S.iconst (v := 1) (dd DX8_twoOf 63 rfl) (by decide) ?_
          refine sk_S.goto (tgt := 216) (dd DX8_twoOf 64 rfl) (by decide) ?_
          refine sk_S.iret (dd DX8_twoOf 66 rfl) rfl rfl ?_
          refine ⟨rfl, ?_⟩
          first | simp [twoV, bi, *] | (simp only [← Int32.not_le] at *; simp [twoV, bi, *])
    · show sk_S _ _ _ _ 124 _ _ _ _
      replace e1 : _ = (45 : Int32) := e1
      refine sk_S.iload_n (i := 1) (dd DX8_twoOf 6 rfl) rfl rfl ?_
      refine sk_S.iload_n (i := 2) (dd DX8_twoOf 7 rfl) rfl rfl ?_
      refine sk_S.isub (dd DX8_twoOf 8 rfl) ?_
      refine sk_S.iret (dd DX8_twoOf 9 rfl) rfl rfl ?_
      refine ⟨rfl, ?_⟩
      first | simp [twoV, bi, *] | (simp only [← Int32.not_le] at *; simp [twoV, bi, *])
    · show sk_S _ _ _ _ 203 _ _ _ _
      replace e1 : _ = (46 : Int32) := e1
      refine sk_S.iload_n (i := 1) (dd DX8_twoOf 59 rfl) rfl rfl ?_
      refine sk_S.if_ne (tgt := 211) (dd DX8_twoOf 60 rfl) (by decide) (fun c204 => ?_) (fun c204 => ?_)
      · refine sk_S.iconst (v := 1) (dd DX8_twoOf 63 rfl) (by decide) ?_
        refine sk_S.goto (tgt := 216) (dd DX8_twoOf 64 rfl) (by decide) ?_
        refine sk_S.iret (dd DX8_twoOf 66 rfl) rfl rfl ?_
        refine ⟨rfl, ?_⟩
        first | simp [twoV, bi, *] | (simp only [← Int32.not_le] at *; simp [twoV, bi, *])
      · refine sk_S.iload_n (i := 2) (dd DX8_twoOf 61 rfl) rfl rfl ?_
        refine sk_S.if_eq (tgt := 215) (dd DX8_twoOf 62 rfl) (by decide) (fun c208 => ?_) (fun c208 => ?_)
        · refine sk_S.iconst (v := 0) (dd DX8_twoOf 65 rfl) (by decide) ?_
          refine sk_S.iret (dd DX8_twoOf 66 rfl) rfl rfl ?_
          refine ⟨rfl, ?_⟩
          first | simp [twoV, bi, *] | (simp only [← Int32.not_le] at *; simp [twoV, bi, *])
        · refine sk_S.iconst (v := 1) (dd DX8_twoOf 63 rfl) (by decide) ?_
          refine sk_S.goto (tgt := 216) (dd DX8_twoOf 64 rfl) (by decide) ?_
          refine sk_S.iret (dd DX8_twoOf 66 rfl) rfl rfl ?_
          refine ⟨rfl, ?_⟩
          first | simp [twoV, bi, *] | (simp only [← Int32.not_le] at *; simp [twoV, bi, *])
    · show sk_S _ _ _ _ 132 _ _ _ _
      replace e1 : _ = (47 : Int32) := e1
      refine sk_S.iload_n (i := 2) (dd DX8_twoOf 14 rfl) rfl rfl ?_
      refine sk_S.if_ne (tgt := 140) (dd DX8_twoOf 15 rfl) (by decide) (fun c133 => ?_) (fun c133 => ?_)
      · refine sk_S.iload_n (i := 1) (dd DX8_twoOf 18 rfl) rfl rfl ?_
        refine sk_S.iload_n (i := 2) (dd DX8_twoOf 19 rfl) rfl rfl ?_
        refine sk_S.idiv (dd DX8_twoOf 20 rfl) (by assumption) ?_
        refine sk_S.iret (dd DX8_twoOf 21 rfl) rfl rfl ?_
        refine ⟨rfl, ?_⟩
        first | simp [twoV, bi, *] | (simp only [← Int32.not_le] at *; simp [twoV, bi, *])
      · refine sk_S.iconst (v := 0) (dd DX8_twoOf 16 rfl) (by decide) ?_
        refine sk_S.goto (tgt := 143) (dd DX8_twoOf 17 rfl) (by decide) ?_
        refine sk_S.iret (dd DX8_twoOf 21 rfl) rfl rfl ?_
        refine ⟨rfl, ?_⟩
        first | simp [twoV, bi, *] | (simp only [← Int32.not_le] at *; simp [twoV, bi, *])
    · show sk_S _ _ _ _ 203 _ _ _ _
      replace e1 : _ = (48 : Int32) := e1
      refine sk_S.iload_n (i := 1) (dd DX8_twoOf 59 rfl) rfl rfl ?_
      refine sk_S.if_ne (tgt := 211) (dd DX8_twoOf 60 rfl) (by decide) (fun c204 => ?_) (fun c204 => ?_)
      · refine sk_S.iconst (v := 1) (dd DX8_twoOf 63 rfl) (by decide) ?_
        refine sk_S.goto (tgt := 216) (dd DX8_twoOf 64 rfl) (by decide) ?_
        refine sk_S.iret (dd DX8_twoOf 66 rfl) rfl rfl ?_
        refine ⟨rfl, ?_⟩
        first | simp [twoV, bi, *] | (simp only [← Int32.not_le] at *; simp [twoV, bi, *])
      · refine sk_S.iload_n (i := 2) (dd DX8_twoOf 61 rfl) rfl rfl ?_
        refine sk_S.if_eq (tgt := 215) (dd DX8_twoOf 62 rfl) (by decide) (fun c208 => ?_) (fun c208 => ?_)
        · refine sk_S.iconst (v := 0) (dd DX8_twoOf 65 rfl) (by decide) ?_
          refine sk_S.iret (dd DX8_twoOf 66 rfl) rfl rfl ?_
          refine ⟨rfl, ?_⟩
          first | simp [twoV, bi, *] | (simp only [← Int32.not_le] at *; simp [twoV, bi, *])
        · refine sk_S.iconst (v := 1) (dd DX8_twoOf 63 rfl) (by decide) ?_
          refine sk_S.goto (tgt := 216) (dd DX8_twoOf 64 rfl) (by decide) ?_
          refine sk_S.iret (dd DX8_twoOf 66 rfl) rfl rfl ?_
          refine ⟨rfl, ?_⟩
          first | simp [twoV, bi, *] | (simp only [← Int32.not_le] at *; simp [twoV, bi, *])
    · show sk_S _ _ _ _ 203 _ _ _ _
      replace e1 : _ = (49 : Int32) := e1
      refine sk_S.iload_n (i := 1) (dd DX8_twoOf 59 rfl) rfl rfl ?_
      refine sk_S.if_ne (tgt := 211) (dd DX8_twoOf 60 rfl) (by decide) (fun c204 => ?_) (fun c204 => ?_)
      · refine sk_S.iconst (v := 1) (dd DX8_twoOf 63 rfl) (by decide) ?_
        refine sk_S.goto (tgt := 216) (dd DX8_twoOf 64 rfl) (by decide) ?_
        refine sk_S.iret (dd DX8_twoOf 66 rfl) rfl rfl ?_
        refine ⟨rfl, ?_⟩
        first | simp [twoV, bi, *] | (simp only [← Int32.not_le] at *; simp [twoV, bi, *])
      · refine sk_S.iload_n (i := 2) (dd DX8_twoOf 61 rfl) rfl rfl ?_
        refine sk_S.if_eq (tgt := 215) (dd DX8_twoOf 62 rfl) (by decide) (fun c208 => ?_) (fun c208 => ?_)
        · refine sk_S.iconst (v := 0) (dd DX8_twoOf 65 rfl) (by decide) ?_
          refine sk_S.iret (dd DX8_twoOf 66 rfl) rfl rfl ?_
          refine ⟨rfl, ?_⟩
          first | simp [twoV, bi, *] | (simp only [← Int32.not_le] at *; simp [twoV, bi, *])
        · refine sk_S.iconst (v := 1) (dd DX8_twoOf 63 rfl) (by decide) ?_
          refine sk_S.goto (tgt := 216) (dd DX8_twoOf 64 rfl) (by decide) ?_
          refine sk_S.iret (dd DX8_twoOf 66 rfl) rfl rfl ?_
          refine ⟨rfl, ?_⟩
          first | simp [twoV, bi, *] | (simp only [← Int32.not_le] at *; simp [twoV, bi, *])
    · show sk_S _ _ _ _ 203 _ _ _ _
      replace e1 : _ = (50 : Int32) := e1
      refine sk_S.iload_n (i := 1) (dd DX8_twoOf 59 rfl) rfl rfl ?_
      refine sk_S.if_ne (tgt := 211) (dd DX8_twoOf 60 rfl) (by decide) (fun c204 => ?_) (fun c204 => ?_)
      · refine sk_S.iconst (v := 1) (dd DX8_twoOf 63 rfl) (by decide) ?_
        refine sk_S.goto (tgt := 216) (dd DX8_twoOf 64 rfl) (by decide) ?_
        refine sk_S.iret (dd DX8_twoOf 66 rfl) rfl rfl ?_
        refine ⟨rfl, ?_⟩
        first | simp [twoV, bi, *] | (simp only [← Int32.not_le] at *; simp [twoV, bi, *])
      · refine sk_S.iload_n (i := 2) (dd DX8_twoOf 61 rfl) rfl rfl ?_
        refine sk_S.if_eq (tgt := 215) (dd DX8_twoOf 62 rfl) (by decide) (fun c208 => ?_) (fun c208 => ?_)
        · refine sk_S.iconst (v := 0) (dd DX8_twoOf 65 rfl) (by decide) ?_
          refine sk_S.iret (dd DX8_twoOf 66 rfl) rfl rfl ?_
          refine ⟨rfl, ?_⟩
          first | simp [twoV, bi, *] | (simp only [← Int32.not_le] at *; simp [twoV, bi, *])
        · refine sk_S.iconst (v := 1) (dd DX8_twoOf 63 rfl) (by decide) ?_
          refine sk_S.goto (tgt := 216) (dd DX8_twoOf 64 rfl) (by decide) ?_
          refine sk_S.iret (dd DX8_twoOf 66 rfl) rfl rfl ?_
          refine ⟨rfl, ?_⟩
          first | simp [twoV, bi, *] | (simp only [← Int32.not_le] at *; simp [twoV, bi, *])
    · show sk_S _ _ _ _ 203 _ _ _ _
      replace e1 : _ = (51 : Int32) := e1
      refine sk_S.iload_n (i := 1) (dd DX8_twoOf 59 rfl) rfl rfl ?_
      refine sk_S.if_ne (tgt := 211) (dd DX8_twoOf 60 rfl) (by decide) (fun c204 => ?_) (fun c204 => ?_)
      · refine sk_S.iconst (v := 1) (dd DX8_twoOf 63 rfl) (by decide) ?_
        refine sk_S.goto (tgt := 216) (dd DX8_twoOf 64 rfl) (by decide) ?_
        refine sk_S.iret (dd DX8_twoOf 66 rfl) rfl rfl ?_
        refine ⟨rfl, ?_⟩
        first | simp [twoV, bi, *] | (simp only [← Int32.not_le] at *; simp [twoV, bi, *])
      · refine sk_S.iload_n (i := 2) (dd DX8_twoOf 61 rfl) rfl rfl ?_
        refine sk_S.if_eq (tgt := 215) (dd DX8_twoOf 62 rfl) (by decide) (fun c208 => ?_) (fun c208 => ?_)
        · refine sk_S.iconst (v := 0) (dd DX8_twoOf 65 rfl) (by decide) ?_
          refine sk_S.iret (dd DX8_twoOf 66 rfl) rfl rfl ?_
          refine ⟨rfl, ?_⟩
          first | simp [twoV, bi, *] | (simp only [← Int32.not_le] at *; simp [twoV, bi, *])
        · refine sk_S.iconst (v := 1) (dd DX8_twoOf 63 rfl) (by decide) ?_
          refine sk_S.goto (tgt := 216) (dd DX8_twoOf 64 rfl) (by decide) ?_
          refine sk_S.iret (dd DX8_twoOf 66 rfl) rfl rfl ?_
          refine ⟨rfl, ?_⟩
          first | simp [twoV, bi, *] | (simp only [← Int32.not_le] at *; simp [twoV, bi, *])
    · show sk_S _ _ _ _ 203 _ _ _ _
      replace e1 : _ = (52 : Int32) := e1
      refine sk_S.iload_n (i := 1) (dd DX8_twoOf 59 rfl) rfl rfl ?_
      refine sk_S.if_ne (tgt := 211) (dd DX8_twoOf 60 rfl) (by decide) (fun c204 => ?_) (fun c204 => ?_)
      · refine sk_S.iconst (v := 1) (dd DX8_twoOf 63 rfl) (by decide) ?_
        refine sk_S.goto (tgt := 216) (dd DX8_twoOf 64 rfl) (by decide) ?_
        refine sk_S.iret (dd DX8_twoOf 66 rfl) rfl rfl ?_
        refine ⟨rfl, ?_⟩
        first | simp [twoV, bi, *] | (simp only [← Int32.not_le] at *; simp [twoV, bi, *])
      · refine sk_S.iload_n (i := 2) (dd DX8_twoOf 61 rfl) rfl rfl ?_
        refine sk_S.if_eq (tgt := 215) (dd DX8_twoOf 62 rfl) (by decide) (fun c208 => ?_) (fun c208 => ?_)
        · refine sk_S.iconst (v := 0) (dd DX8_twoOf 65 rfl) (by decide) ?_
          refine sk_S.iret (dd DX8_twoOf 66 rfl) rfl rfl ?_
          refine ⟨rfl, ?_⟩
          first | simp [twoV, bi, *] | (simp only [← Int32.not_le] at *; simp [twoV, bi, *])
        · refine sk_S.iconst (v := 1) (dd DX8_twoOf 63 rfl) (by decide) ?_
          refine sk_S.goto (tgt := 216) (dd DX8_twoOf 64 rfl) (by decide) ?_
          refine sk_S.iret (dd DX8_twoOf 66 rfl) rfl rfl ?_
          refine ⟨rfl, ?_⟩
          first | simp [twoV, bi, *] | (simp only [← Int32.not_le] at *; simp [twoV, bi, *])
    · show sk_S _ _ _ _ 203 _ _ _ _
      replace e1 : _ = (53 : Int32) := e1
      refine sk_S.iload_n (i := 1) (dd DX8_twoOf 59 rfl) rfl rfl ?_
      refine sk_S.if_ne (tgt := 211) (dd DX8_twoOf 60 rfl) (by decide) (fun c204 => ?_) (fun c204 => ?_)
      · refine sk_S.iconst (v := 1) (dd DX8_twoOf 63 rfl) (by decide) ?_
        refine sk_S.goto (tgt := 216) (dd DX8_twoOf 64 rfl) (by decide) ?_
        refine sk_S.iret (dd DX8_twoOf 66 rfl) rfl rfl ?_
        refine ⟨rfl, ?_⟩
        first | simp [twoV, bi, *] | (simp only [← Int32.not_le] at *; simp [twoV, bi, *])
      · refine sk_S.iload_n (i := 2) (dd DX8_twoOf 61 rfl) rfl rfl ?_
        refine sk_S.if_eq (tgt := 215) (dd DX8_twoOf 62 rfl) (by decide) (fun c208 => ?_) (fun c208 => ?_)
        · refine sk_S.iconst (v := 0) (dd DX8_twoOf 65 rfl) (by decide) ?_
          refine sk_S.iret (dd DX8_twoOf 66 rfl) rfl rfl ?_
          refine ⟨rfl, ?_⟩
          first | simp [twoV, bi, *] | (simp only [← Int32.not_le] at *; simp [twoV, bi, *])
        · refine sk_S.iconst (v := 1) (dd DX8_twoOf 63 rfl) (by decide) ?_
          refine sk_S.goto (tgt := 216) (dd DX8_twoOf 64 rfl) (by decide) ?_
          refine sk_S.iret (dd DX8_twoOf 66 rfl) rfl rfl ?_
          refine ⟨rfl, ?_⟩
          first | simp [twoV, bi, *] | (simp only [← Int32.not_le] at *; simp [twoV, bi, *])
    · show sk_S _ _ _ _ 203 _ _ _ _
      replace e1 : _ = (54 : Int32) := e1
      refine sk_S.iload_n (i := 1) (dd DX8_twoOf 59 rfl) rfl rfl ?_
      refine sk_S.if_ne (tgt := 211) (dd DX8_twoOf 60 rfl) (by decide) (fun c204 => ?_) (fun c204 => ?_)
      · refine sk_S.iconst (v := 1) (dd DX8_twoOf 63 rfl) (by decide) ?_
        refine sk_S.goto (tgt := 216) (dd DX8_twoOf 64 rfl) (by decide) ?_
        refine sk_S.iret (dd DX8_twoOf 66 rfl) rfl rfl ?_
        refine ⟨rfl, ?_⟩
        first | simp [twoV, bi, *] | (simp only [← Int32.not_le] at *; simp [twoV, bi, *])
      · refine sk_S.iload_n (i := 2) (dd DX8_twoOf 61 rfl) rfl rfl ?_
        refine sk_S.if_eq (tgt := 215) (dd DX8_twoOf 62 rfl) (by decide) (fun c208 => ?_) (fun c208 => ?_)
        · refine sk_S.iconst (v := 0) (dd DX8_twoOf 65 rfl) (by decide) ?_
          refine sk_S.iret (dd DX8_twoOf 66 rfl) rfl rfl ?_
          refine ⟨rfl, ?_⟩
          first | simp [twoV, bi, *] | (simp only [← Int32.not_le] at *; simp [twoV, bi, *])
        · refine sk_S.iconst (v := 1) (dd DX8_twoOf 63 rfl) (by decide) ?_
          refine sk_S.goto (tgt := 216) (dd DX8_twoOf 64 rfl) (by decide) ?_
          refine sk_S.iret (dd DX8_twoOf 66 rfl) rfl rfl ?_
          refine ⟨rfl, ?_⟩
          first | simp [twoV, bi, *] | (simp only [← Int32.not_le] at *; simp [twoV, bi, *])
    · show sk_S _ _ _ _ 203 _ _ _ _
      replace e1 : _ = (55 : Int32) := e1
      refine sk_S.iload_n (i := 1) (dd DX8_twoOf 59 rfl) rfl rfl ?_
      refine sk_S.if_ne (tgt := 211) (dd DX8_twoOf 60 rfl) (by decide) (fun c204 => ?_) (fun c204 => ?_)
      · refine sk_S.iconst (v := 1) (dd DX8_twoOf 63 rfl) (by decide) ?_
        refine sk_S.goto (tgt := 216) (dd DX8_twoOf 64 rfl) (by decide) ?_
        refine sk_S.iret (dd DX8_twoOf 66 rfl) rfl rfl ?_
        refine ⟨rfl, ?_⟩
        first | simp [twoV, bi, *] | (simp only [← Int32.not_le] at *; simp [twoV, bi, *])
      · refine sk_S.iload_n (i := 2) (dd DX8_twoOf 61 rfl) rfl rfl ?_
        refine sk_S.if_eq (tgt := 215) (dd DX8_twoOf 62 rfl) (by decide) (fun c208 => ?_) (fun c208 => ?_)
        · refine sk_S.iconst (v := 0) (dd DX8_twoOf 65 rfl) (by decide) ?_
          refine sk_S.iret (dd DX8_twoOf 66 rfl) rfl rfl ?_
          refine ⟨rfl, ?_⟩
          first | simp [twoV, bi, *] | (simp only [← Int32.not_le] at *; simp [twoV, bi, *])
        · refine sk_S.iconst (v := 1) (dd DX8_twoOf 63 rfl) (by decide) ?_
          refine sk_S.goto (tgt := 216) (dd DX8_twoOf 64 rfl) (by decide) ?_
          refine sk_S.iret (dd DX8_twoOf 66 rfl) rfl rfl ?_
          refine ⟨rfl, ?_⟩
          first | simp [twoV, bi, *] | (simp only [← Int32.not_le] at *; simp [twoV, bi, *])
    · show sk_S _ _ _ _ 203 _ _ _ _
      replace e1 : _ = (56 : Int32) := e1
      refine sk_S.iload_n (i := 1) (dd DX8_twoOf 59 rfl) rfl rfl ?_
      refine sk_S.if_ne (tgt := 211) (dd DX8_twoOf 60 rfl) (by decide) (fun c204 => ?_) (fun c204 => ?_)
      · refine sk_S.iconst (v := 1) (dd DX8_twoOf 63 rfl) (by decide) ?_
        refine sk_S.goto (tgt := 216) (dd DX8_twoOf 64 rfl) (by decide) ?_
        refine sk_S.iret (dd DX8_twoOf 66 rfl) rfl rfl ?_
        refine ⟨rfl, ?_⟩
        first | simp [twoV, bi, *] | (simp only [← Int32.not_le] at *; simp [twoV, bi, *])
      · refine sk_S.iload_n (i := 2) (dd DX8_twoOf 61 rfl) rfl rfl ?_
        refine sk_S.if_eq (tgt := 215) (dd DX8_twoOf 62 rfl) (by decide) (fun c208 => ?_) (fun c208 => ?_)
        · refine sk_S.iconst (v := 0) (dd DX8_twoOf 65 rfl) (by decide) ?_
          refine sk_S.iret (dd DX8_twoOf 66 rfl) rfl rfl ?_
          refine ⟨rfl, ?_⟩
          first | simp [twoV, bi, *] | (simp only [← Int32.not_le] at *; simp [twoV, bi, *])
        · refine sk_S.iconst (v := 1) (dd DX8_twoOf 63 rfl) (by decide) ?_
          refine sk_S.goto (tgt := 216) (dd DX8_twoOf 64 rfl) (by decide) ?_
          refine sk_S.iret (dd DX8_twoOf 66 rfl) rfl rfl ?_
          refine ⟨rfl, ?_⟩
          first | simp [twoV, bi, *] | (simp only [← Int32.not_le] at *; simp [twoV, bi, *])
    · show sk_S _ _ _ _ 203 _ _ _ _
      replace e1 : _ = (57 : Int32) := e1
      refine sk_S.iload_n (i := 1) (dd DX8_twoOf 59 rfl) rfl rfl ?_
      refine sk_S.if_ne (tgt := 211) (dd DX8_twoOf 60 rfl) (by decide) (fun c204 => ?_) (fun c204 => ?_)
      · refine sk_S.iconst (v := 1) (dd DX8_twoOf 63 rfl) (by decide) ?_
        refine sk_S.goto (tgt := 216) (dd DX8_twoOf 64 rfl) (by decide) ?_
        refine sk_S.iret (dd DX8_twoOf 66 rfl) rfl rfl ?_
        refine ⟨rfl, ?_⟩
        first | simp [twoV, bi, *] | (simp only [← Int32.not_le] at *; simp [twoV, bi, *])
      · refine sk_S.iload_n (i := 2) (dd DX8_twoOf 61 rfl) rfl rfl ?_
        refine sk_S.if_eq (tgt := 215) (dd DX8_twoOf 62 rfl) (by decide) (fun c208 => ?_) (fun c208 => ?_)
        · refine sk_S.iconst (v := 0) (dd DX8_twoOf 65 rfl) (by decide) ?_
          refine sk_S.iret (dd DX8_twoOf 66 rfl) rfl rfl ?_
          refine ⟨rfl, ?_⟩
          first | simp [twoV, bi, *] | (simp only [← Int32.not_le] at *; simp [twoV, bi, *])
        · refine sk_S.iconst (v := 1) (dd DX8_twoOf 63 rfl) (by decide) ?_
          refine sk_S.goto (tgt := 216) (dd DX8_twoOf 64 rfl) (by decide) ?_
          refine sk_S.iret (dd DX8_twoOf 66 rfl) rfl rfl ?_
          refine ⟨rfl, ?_⟩
          first | simp [twoV, bi, *] | (simp only [← Int32.not_le] at *; simp [twoV, bi, *])
    · show sk_S _ _ _ _ 203 _ _ _ _
      replace e1 : _ = (58 : Int32) := e1
      refine sk_S.iload_n (i := 1) (dd DX8_twoOf 59 rfl) rfl rfl ?_
      refine sk_S.if_ne (tgt := 211) (dd DX8_twoOf 60 rfl) (by decide) (fun c204 => ?_) (fun c204 => ?_)
      · refine sk_S.iconst (v := 1) (dd DX8_twoOf 63 rfl) (by decide) ?_
        refine sk_S.goto (tgt := 216) (dd DX8_twoOf 64 rfl) (by decide) ?_
        refine sk_S.iret (dd DX8_twoOf 66 rfl) rfl rfl ?_
        refine ⟨rfl, ?_⟩
        first | simp [twoV, bi, *] | (simp only [← Int32.not_le] at *; simp [twoV, bi, *])
      · refine sk_S.iload_n (i := 2) (dd DX8_twoOf 61 rfl) rfl rfl ?_
        refine sk_S.if_eq (tgt := 215) (dd DX8_twoOf 62 rfl) (by decide) (fun c208 => ?_) (fun c208 => ?_)
        · refine sk_S.iconst (v := 0) (dd DX8_twoOf 65 rfl) (by decide) ?_
          refine sk_S.iret (dd DX8_twoOf 66 rfl) rfl rfl ?_
          refine ⟨rfl, ?_⟩
          first | simp [twoV, bi, *] | (simp only [← Int32.not_le] at *; simp [twoV, bi, *])
        · refine sk_S.iconst (v := 1) (dd DX8_twoOf 63 rfl) (by decide) ?_
          refine sk_S.goto (tgt := 216) (dd DX8_twoOf 64 rfl) (by decide) ?_
          refine sk_S.iret (dd DX8_twoOf 66 rfl) rfl rfl ?_
          refine ⟨rfl, ?_⟩
          first | simp [twoV, bi, *] | (simp only [← Int32.not_le] at *; simp [twoV, bi, *])
    · show sk_S _ _ _ _ 203 _ _ _ _
      replace e1 : _ = (59 : Int32) := e1
      refine sk_S.iload_n (i := 1) (dd DX8_twoOf 59 rfl) rfl rfl ?_
      refine sk_S.if_ne (tgt := 211) (dd DX8_twoOf 60 rfl) (by decide) (fun c204 => ?_) (fun c204 => ?_)
      · refine sk_S.iconst (v := 1) (dd DX8_twoOf 63 rfl) (by decide) ?_
        refine sk_S.goto (tgt := 216) (dd DX8_twoOf 64 rfl) (by decide) ?_
        refine sk_S.iret (dd DX8_twoOf 66 rfl) rfl rfl ?_
        refine ⟨rfl, ?_⟩
        first | simp [twoV, bi, *] | (simp only [← Int32.not_le] at *; simp [twoV, bi, *])
      · refine sk_S.iload_n (i := 2) (dd DX8_twoOf 61 rfl) rfl rfl ?_
        refine sk_S.if_eq (tgt := 215) (dd DX8_twoOf 62 rfl) (by decide) (fun c208 => ?_) (fun c208 => ?_)
        · refine sk_S.iconst (v := 0) (dd DX8_twoOf 65 rfl) (by decide) ?_
          refine sk_S.iret (dd DX8_twoOf 66 rfl) rfl rfl ?_
          refine ⟨rfl, ?_⟩
          first | simp [twoV, bi, *] | (simp only [← Int32.not_le] at *; simp [twoV, bi, *])
        · refine sk_S.iconst (v := 1) (dd DX8_twoOf 63 rfl) (by decide) ?_
          refine sk_S.goto (tgt := 216) (dd DX8_twoOf 64 rfl) (by decide) ?_
          refine sk_S.iret (dd DX8_twoOf 66 rfl) rfl rfl ?_
          refine ⟨rfl, ?_⟩
          first | simp [twoV, bi, *] | (simp only [← Int32.not_le] at *; simp [twoV, bi, *])
    · show sk_S _ _ _ _ 156 _ _ _ _
      replace e1 : _ = (60 : Int32) := e1
      refine sk_S.iload_n (i := 1) (dd DX8_twoOf 30 rfl) rfl rfl ?_
      refine sk_S.iload_n (i := 2) (dd DX8_twoOf 31 rfl) rfl rfl ?_
      refine sk_S.icmp_ge (tgt := 165) (dd DX8_twoOf 32 rfl) (by decide) (fun c158 => ?_) (fun c158 => ?_)
      · refine sk_S.iconst (v := 0) (dd DX8_twoOf 35 rfl) (by decide) ?_
        refine sk_S.iret (dd DX8_twoOf 36 rfl) rfl rfl ?_
        refine ⟨rfl, ?_⟩
        first | simp [twoV, bi, *] | (simp only [← Int32.not_le] at *; simp [twoV, bi, *])
      · refine sk_S.iconst (v := 1) (dd DX8_twoOf 33 rfl) (by decide) ?_
        refine sk_S.goto (tgt := 166) (dd DX8_twoOf 34 rfl) (by decide) ?_
        refine sk_S.iret (dd DX8_twoOf 36 rfl) rfl rfl ?_
        refine ⟨rfl, ?_⟩
        first | simp [twoV, bi, *] | (simp only [← Int32.not_le] at *; simp [twoV, bi, *])
    · show sk_S _ _ _ _ 167 _ _ _ _
      replace e1 : _ = (61 : Int32) := e1
      refine sk_S.iload_n (i := 1) (dd DX8_twoOf 37 rfl) rfl rfl ?_
      refine sk_S.iload_n (i := 2) (dd DX8_twoOf 38 rfl) rfl rfl ?_
      refine sk_S.icmp_ne (tgt := 176) (dd DX8_twoOf 39 rfl) (by decide) (fun c169 => ?_) (fun c169 => ?_)
      · refine sk_S.iconst (v := 0) (dd DX8_twoOf 42 rfl) (by decide) ?_
        refine sk_S.iret (dd DX8_twoOf 43 rfl) rfl rfl ?_
        refine ⟨rfl, ?_⟩
        first | simp [twoV, bi, *] | (simp only [← Int32.not_le] at *; simp [twoV, bi, *])
      · refine sk_S.iconst (v := 1) (dd DX8_twoOf 40 rfl) (by decide) ?_
        refine sk_S.goto (tgt := 177) (dd DX8_twoOf 41 rfl) (by decide) ?_
        refine sk_S.iret (dd DX8_twoOf 43 rfl) rfl rfl ?_
        refine ⟨rfl, ?_⟩
        first | simp [twoV, bi, *] | (simp only [← Int32.not_le] at *; simp [twoV, bi, *])
    · show sk_S _ _ _ _ 178 _ _ _ _
      replace e1 : _ = (62 : Int32) := e1
      refine sk_S.iload_n (i := 1) (dd DX8_twoOf 44 rfl) rfl rfl ?_
      refine sk_S.iload_n (i := 2) (dd DX8_twoOf 45 rfl) rfl rfl ?_
      refine sk_S.icmp_le (tgt := 187) (dd DX8_twoOf 46 rfl) (by decide) (fun c180 => ?_) (fun c180 => ?_)
      · refine sk_S.iconst (v := 0) (dd DX8_twoOf 49 rfl) (by decide) ?_
        refine sk_S.iret (dd DX8_twoOf 50 rfl) rfl rfl ?_
        refine ⟨rfl, ?_⟩
        first | simp [twoV, bi, *] | (simp only [← Int32.not_le] at *; simp [twoV, bi, *])
      · refine sk_S.iconst (v := 1) (dd DX8_twoOf 47 rfl) (by decide) ?_
        refine sk_S.goto (tgt := 188) (dd DX8_twoOf 48 rfl) (by decide) ?_
        refine sk_S.iret (dd DX8_twoOf 50 rfl) rfl rfl ?_
        refine ⟨rfl, ?_⟩
        first | simp [twoV, bi, *] | (simp only [← Int32.not_le] at *; simp [twoV, bi, *])
    · exact absurd hj1 (by simp)
  · show sk_S _ _ _ _ 203 _ _ _ _
    have e1_ := (⟨e1 0 (by decide), e1 1 (by decide), e1 2 (by decide), e1 3 (by decide), e1 4 (by decide), e1 5 (by decide), e1 6 (by decide), e1 7 (by decide), e1 8 (by decide), e1 9 (by decide), e1 10 (by decide), e1 11 (by decide), e1 12 (by decide), e1 13 (by decide), e1 14 (by decide), e1 15 (by decide), e1 16 (by decide), e1 17 (by decide), e1 18 (by decide), e1 19 (by decide), e1 20 (by decide), e1 21 (by decide), e1 22 (by decide), e1 23 (by decide), e1 24 (by decide), e1 25 (by decide)⟩ : ¬ _ = (37 : Int32) ∧ ¬ _ = (38 : Int32) ∧ ¬ _ = (39 : Int32) ∧ ¬ _ = (40 : Int32) ∧ ¬ _ = (41 : Int32) ∧ ¬ _ = (42 : Int32) ∧ ¬ _ = (43 : Int32) ∧ ¬ _ = (44 : Int32) ∧ ¬ _ = (45 : Int32) ∧ ¬ _ = (46 : Int32) ∧ ¬ _ = (47 : Int32) ∧ ¬ _ = (48 : Int32) ∧ ¬ _ = (49 : Int32) ∧ ¬ _ = (50 : Int32) ∧ ¬ _ = (51 : Int32) ∧ ¬ _ = (52 : Int32) ∧ ¬ _ = (53 : Int32) ∧ ¬ _ = (54 : Int32) ∧ ¬ _ = (55 : Int32) ∧ ¬ _ = (56 : Int32) ∧ ¬ _ = (57 : Int32) ∧ ¬ _ = (58 : Int32) ∧ ¬ _ = (59 : Int32) ∧ ¬ _ = (60 : Int32) ∧ ¬ _ = (61 : Int32) ∧ ¬ _ = (62 : Int32))
    refine sk_S.iload_n (i := 1) (dd DX8_twoOf 59 rfl) rfl rfl ?_
    refine sk_S.if_ne (tgt := 211) (dd DX8_twoOf 60 rfl) (by decide) (fun c204 => ?_) (fun c204 => ?_)
    · refine sk_S.iconst (v := 1) (dd DX8_twoOf 63 rfl) (by decide) ?_
      refine sk_S.goto (tgt := 216) (dd DX8_twoOf 64 rfl) (by decide) ?_
      refine sk_S.iret (dd DX8_twoOf 66 rfl) rfl rfl ?_
      refine ⟨rfl, ?_⟩
      first | simp [twoV, bi, *] | (simp only [← Int32.not_le] at *; simp [twoV, bi, *])
    · refine sk_S.iload_n (i := 2) (dd DX8_twoOf 61 rfl) rfl rfl ?_
      refine sk_S.if_eq (tgt := 215) (dd DX8_twoOf 62 rfl) (by decide) (fun c208 => ?_) (fun c208 => ?_)
      · refine sk_S.iconst (v := 0) (dd DX8_twoOf 65 rfl) (by decide) ?_
        refine sk_S.iret (dd DX8_twoOf 66 rfl) rfl rfl ?_
        refine ⟨rfl, ?_⟩
        first | simp [twoV, bi, *] | (simp only [← Int32.not_le] at *; simp [twoV, bi, *])
      · refine sk_S.iconst (v := 1) (dd DX8_twoOf 63 rfl) (by decide) ?_
        refine sk_S.goto (tgt := 216) (dd DX8_twoOf 64 rfl) (by decide) ?_
        refine sk_S.iret (dd DX8_twoOf 66 rfl) rfl rfl ?_
        refine ⟨rfl, ?_⟩
        first | simp [twoV, bi, *] | (simp only [← Int32.not_le] at *; simp [twoV, bi, *])
end M2
