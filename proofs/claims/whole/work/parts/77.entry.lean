/-! what holds at the law's entry -/
theorem la_nar {args : Array Value} {s : State} (h : (Jvm.Cond.and given_1 narrow_1).before args s = true) {n : Nat} {w : Cond} (hw : (flatC narrow_1)[n]? = some w) : w.before args s = true := flat_of_before _ h _ (by
  show w ∈ flatC given_1 ++ flatC narrow_1
  exact List.mem_append_right _ (List.mem_of_getElem? hw))
section LE
variable {args : Array Value} {s : State}
theorem la_out : ∀ a : Nat, a < s.heap.size → ¬ la_A s a := fun a h => Nat.not_le.mpr h
set_option maxRecDepth 100000 in
theorem la_TA_AT_FIRST (hts : ∀ w ∈ lw_tbl, w.before args s = true) (h : (Jvm.Cond.and given_1 narrow_1).before args s = true) : mm_TA "AT_FIRST" mm_first (la_A s) s s.heap := by
  obtain ⟨t, ht, hT⟩ := va_Tof (args := args) (s := s) (tm := .static "LooksByMany$Laws" "AT_FIRST" "[I") (ty := .int) (N := 8) (f := fun j => .int (mm_first j)) (A := la_A s) (by decide) (la_nar h (n := 3) rfl) (va_eqt (la_nar h (n := 4) rfl)) (fun j hj => by
      rcases (show j = 0 ∨ j = 1 ∨ j = 2 ∨ j = 3 ∨ j = 4 ∨ j = 5 ∨ j = 6 ∨ j = 7 by omega) with rfl | rfl | rfl | rfl | rfl | rfl | rfl | rfl
      · exact va_eqt (la_nar h (n := 5) rfl)
      · exact va_eqt (la_nar h (n := 6) rfl)
      · exact va_eqt (la_nar h (n := 7) rfl)
      · exact va_eqt (la_nar h (n := 8) rfl)
      · exact va_eqt (la_nar h (n := 9) rfl)
      · exact va_eqt (la_nar h (n := 10) rfl)
      · exact va_eqt (la_nar h (n := 11) rfl)
      · exact va_eqt (la_nar h (n := 12) rfl)) la_out
  exact ⟨t, va_Zref (hts _ (lt_1 _ (List.mem_of_getElem? (i := 31) rfl))) (hts _ (lt_1 _ (List.mem_of_getElem? (i := 2) rfl))) ht la_out, hT⟩
set_option maxRecDepth 100000 in
theorem la_TA_LEAST (hts : ∀ w ∈ lw_tbl, w.before args s = true) (h : (Jvm.Cond.and given_1 narrow_1).before args s = true) : mm_TA "LEAST" mm_low (la_A s) s s.heap := by
  obtain ⟨t, ht, hT⟩ := va_Tof (args := args) (s := s) (tm := .static "LooksByMany$Laws" "LEAST" "[I") (ty := .int) (N := 8) (f := fun j => .int (mm_low j)) (A := la_A s) (by decide) (la_nar h (n := 19) rfl) (va_eqt (la_nar h (n := 20) rfl)) (fun j hj => by
      rcases (show j = 0 ∨ j = 1 ∨ j = 2 ∨ j = 3 ∨ j = 4 ∨ j = 5 ∨ j = 6 ∨ j = 7 by omega) with rfl | rfl | rfl | rfl | rfl | rfl | rfl | rfl
      · exact va_eqt (la_nar h (n := 21) rfl)
      · exact va_eqt (la_nar h (n := 22) rfl)
      · exact va_eqt (la_nar h (n := 23) rfl)
      · exact va_eqt (la_nar h (n := 24) rfl)
      · exact va_eqt (la_nar h (n := 25) rfl)
      · exact va_eqt (la_nar h (n := 26) rfl)
      · exact va_eqt (la_nar h (n := 27) rfl)
      · exact va_eqt (la_nar h (n := 28) rfl)) la_out
  exact ⟨t, va_Zref (hts _ (lt_2 _ (List.mem_of_getElem? (i := 159) rfl))) (hts _ (lt_1 _ (List.mem_of_getElem? (i := 2) rfl))) ht la_out, hT⟩
set_option maxRecDepth 100000 in
theorem la_TA_GREATEST (hts : ∀ w ∈ lw_tbl, w.before args s = true) (h : (Jvm.Cond.and given_1 narrow_1).before args s = true) : mm_TA "GREATEST" mm_high (la_A s) s s.heap := by
  obtain ⟨t, ht, hT⟩ := va_Tof (args := args) (s := s) (tm := .static "LooksByMany$Laws" "GREATEST" "[I") (ty := .int) (N := 8) (f := fun j => .int (mm_high j)) (A := la_A s) (by decide) (la_nar h (n := 30) rfl) (va_eqt (la_nar h (n := 31) rfl)) (fun j hj => by
      rcases (show j = 0 ∨ j = 1 ∨ j = 2 ∨ j = 3 ∨ j = 4 ∨ j = 5 ∨ j = 6 ∨ j = 7 by omega) with rfl | rfl | rfl | rfl | rfl | rfl | rfl | rfl
      · exact va_eqt (la_nar h (n := 32) rfl)
      · exact va_eqt (la_nar h (n := 33) rfl)
      · exact va_eqt (la_nar h (n := 34) rfl)
      · exact va_eqt (la_nar h (n := 35) rfl)
      · exact va_eqt (la_nar h (n := 36) rfl)
      · exact va_eqt (la_nar h (n := 37) rfl)
      · exact va_eqt (la_nar h (n := 38) rfl)
      · exact va_eqt (la_nar h (n := 39) rfl)) la_out
  exact ⟨t, va_Zref (hts _ (lt_2 _ (List.mem_of_getElem? (i := 161) rfl))) (hts _ (lt_1 _ (List.mem_of_getElem? (i := 2) rfl))) ht la_out, hT⟩
set_option maxRecDepth 100000 in
theorem la_Nn (hts : ∀ w ∈ lw_tbl, w.before args s = true) : mm_Nn s ∧ ct_Nn s := ⟨⟨va_Nw.of rfl (hts _ (lt_2 _ (List.mem_of_getElem? (i := 170) rfl))), va_Nw.of rfl (hts _ (lt_3 _ (List.mem_of_getElem? (i := 67) rfl))), va_Nw.of rfl (hts _ (lt_2 _ (List.mem_of_getElem? (i := 214) rfl))), va_Nw.of rfl (hts _ (lt_4 _ (List.mem_of_getElem? (i := 149) rfl)))⟩, va_Nw.of rfl (hts _ (lt_1 _ (List.mem_of_getElem? (i := 60) rfl))), va_Nw.of rfl (hts _ (lt_1 _ (List.mem_of_getElem? (i := 70) rfl))), va_Nw.of rfl (hts _ (lt_1 _ (List.mem_of_getElem? (i := 96) rfl)))⟩
set_option maxRecDepth 100000 in
theorem la_sex (h : (Jvm.Cond.and given_1 narrow_1).before args s = true) : ∀ i : Nat, i < 8 → (Cond.exactly (.string RX1 (113 + 2 * i)) "java/lang/String").before args s = true := by
  intro i hi
  rcases (show i = 0 ∨ i = 1 ∨ i = 2 ∨ i = 3 ∨ i = 4 ∨ i = 5 ∨ i = 6 ∨ i = 7 by omega) with rfl | rfl | rfl | rfl | rfl | rfl | rfl | rfl
  · exact la_nar h (n := 40) rfl
  · exact la_nar h (n := 49) rfl
  · exact la_nar h (n := 57) rfl
  · exact la_nar h (n := 67) rfl
  · exact la_nar h (n := 78) rfl
  · exact la_nar h (n := 90) rfl
  · exact la_nar h (n := 103) rfl
  · exact la_nar h (n := 121) rfl
set_option maxRecDepth 100000 in
theorem la_sco (h : (Jvm.Cond.and given_1 narrow_1).before args s = true) : ∀ i : Nat, i < 8 → (Cond.eq (.field (.string RX1 (113 + 2 * i)) "java/lang/String" "coder" "B") (.int 0)).before args s = true := by
  intro i hi
  rcases (show i = 0 ∨ i = 1 ∨ i = 2 ∨ i = 3 ∨ i = 4 ∨ i = 5 ∨ i = 6 ∨ i = 7 by omega) with rfl | rfl | rfl | rfl | rfl | rfl | rfl | rfl
  · exact la_nar h (n := 41) rfl
  · exact la_nar h (n := 50) rfl
  · exact la_nar h (n := 58) rfl
  · exact la_nar h (n := 68) rfl
  · exact la_nar h (n := 79) rfl
  · exact la_nar h (n := 91) rfl
  · exact la_nar h (n := 104) rfl
  · exact la_nar h (n := 122) rfl
set_option maxRecDepth 100000 in
theorem la_sar (h : (Jvm.Cond.and given_1 narrow_1).before args s = true) : ∀ i : Nat, i < 8 → (Cond.arrayOf (.field (.string RX1 (113 + 2 * i)) "java/lang/String" "value" "[B") .byte).before args s = true := by
  intro i hi
  rcases (show i = 0 ∨ i = 1 ∨ i = 2 ∨ i = 3 ∨ i = 4 ∨ i = 5 ∨ i = 6 ∨ i = 7 by omega) with rfl | rfl | rfl | rfl | rfl | rfl | rfl | rfl
  · exact la_nar h (n := 42) rfl
  · exact la_nar h (n := 51) rfl
  · exact la_nar h (n := 59) rfl
  · exact la_nar h (n := 69) rfl
  · exact la_nar h (n := 80) rfl
  · exact la_nar h (n := 92) rfl
  · exact la_nar h (n := 105) rfl
  · exact la_nar h (n := 123) rfl
set_option maxRecDepth 100000 in
theorem la_sle (h : (Jvm.Cond.and given_1 narrow_1).before args s = true) : ∀ i : Nat, i < 8 → (Cond.eq (.length (.field (.string RX1 (113 + 2 * i)) "java/lang/String" "value" "[B")) (.int (Int32.ofNat (mm_tl.getD i 0)))).before args s = true := by
  intro i hi
  rcases (show i = 0 ∨ i = 1 ∨ i = 2 ∨ i = 3 ∨ i = 4 ∨ i = 5 ∨ i = 6 ∨ i = 7 by omega) with rfl | rfl | rfl | rfl | rfl | rfl | rfl | rfl
  · exact la_nar h (n := 43) rfl
  · exact la_nar h (n := 52) rfl
  · exact la_nar h (n := 60) rfl
  · exact la_nar h (n := 70) rfl
  · exact la_nar h (n := 81) rfl
  · exact la_nar h (n := 93) rfl
  · exact la_nar h (n := 106) rfl
  · exact la_nar h (n := 124) rfl
set_option maxRecDepth 100000 in
theorem la_srf (hts : ∀ w ∈ lw_tbl, w.before args s = true) : ∀ i : Nat, i < 8 → (Cond.stringRef RX1 (113 + 2 * i) (mm_tx i)).before args s = true := by
  intro i hi
  rcases (show i = 0 ∨ i = 1 ∨ i = 2 ∨ i = 3 ∨ i = 4 ∨ i = 5 ∨ i = 6 ∨ i = 7 by omega) with rfl | rfl | rfl | rfl | rfl | rfl | rfl | rfl
  · exact hts _ (lt_2 _ (List.mem_of_getElem? (i := 84) rfl))
  · exact hts _ (lt_2 _ (List.mem_of_getElem? (i := 85) rfl))
  · exact hts _ (lt_2 _ (List.mem_of_getElem? (i := 86) rfl))
  · exact hts _ (lt_2 _ (List.mem_of_getElem? (i := 87) rfl))
  · exact hts _ (lt_2 _ (List.mem_of_getElem? (i := 88) rfl))
  · exact hts _ (lt_2 _ (List.mem_of_getElem? (i := 89) rfl))
  · exact hts _ (lt_2 _ (List.mem_of_getElem? (i := 90) rfl))
  · exact hts _ (lt_2 _ (List.mem_of_getElem? (i := 91) rfl))
set_option maxRecDepth 100000 in
theorem la_sel (h : (Jvm.Cond.and given_1 narrow_1).before args s = true) : ∀ i : Nat, i < 8 → ∀ j : Nat, j < mm_tl.getD i 0 → (Cond.eq (.elem (.field (.string RX1 (113 + 2 * i)) "java/lang/String" "value" "[B") (.int (Int32.ofNat j))) (.int ((mm_tb.getD i []).getD j 0))).before args s = true := by
  intro i hi j hj
  rcases (show i = 0 ∨ i = 1 ∨ i = 2 ∨ i = 3 ∨ i = 4 ∨ i = 5 ∨ i = 6 ∨ i = 7 by omega) with rfl | rfl | rfl | rfl | rfl | rfl | rfl | rfl
  · have hj : j < 5 := hj
    rcases (show j = 0 ∨ j = 1 ∨ j = 2 ∨ j = 3 ∨ j = 4 by omega) with rfl | rfl | rfl | rfl | rfl
    · exact la_nar h (n := 44) rfl
    · exact la_nar h (n := 45) rfl
    · exact la_nar h (n := 46) rfl
    · exact la_nar h (n := 47) rfl
    · exact la_nar h (n := 48) rfl
  · have hj : j < 3 := hj
    rcases (show j = 0 ∨ j = 1 ∨ j = 2 by omega) with rfl | rfl | rfl
    · exact la_nar h (n := 53) rfl
    · exact la_nar h (n := 54) rfl
    · exact la_nar h (n := 55) rfl
  · have hj : j < 4 := hj
    rcases (show j = 0 ∨ j = 1 ∨ j = 2 ∨ j = 3 by omega) with rfl | rfl | rfl | rfl
    · exact la_nar h (n := 61) rfl
    · exact la_nar h (n := 62) rfl
    · exact la_nar h (n := 63) rfl
    · exact la_nar h (n := 64) rfl
  · have hj : j < 4 := hj
    rcases (show j = 0 ∨ j = 1 ∨ j = 2 ∨ j = 3 by omega) with rfl | rfl | rfl | rfl
    · exact la_nar h (n := 71) rfl
    · exact la_nar h (n := 72) rfl
    · exact la_nar h (n := 73) rfl
    · exact la_nar h (n := 74) rfl
  · have hj : j < 4 := hj
    rcases (show j = 0 ∨ j = 1 ∨ j = 2 ∨ j = 3 by omega) with rfl | rfl | rfl | rfl
    · exact la_nar h (n := 82) rfl
    · exact la_nar h (n := 83) rfl
    · exact la_nar h (n := 84) rfl
    · exact la_nar h (n := 85) rfl
  · have hj : j < 4 := hj
    rcases (show j = 0 ∨ j = 1 ∨ j = 2 ∨ j = 3 by omega) with rfl | rfl | rfl | rfl
    · exact la_nar h (n := 94) rfl
    · exact la_nar h (n := 95) rfl
    · exact la_nar h (n := 96) rfl
    · exact la_nar h (n := 97) rfl
  · have hj : j < 8 := hj
    rcases (show j = 0 ∨ j = 1 ∨ j = 2 ∨ j = 3 ∨ j = 4 ∨ j = 5 ∨ j = 6 ∨ j = 7 by omega) with rfl | rfl | rfl | rfl | rfl | rfl | rfl | rfl
    · exact la_nar h (n := 107) rfl
    · exact la_nar h (n := 108) rfl
    · exact la_nar h (n := 109) rfl
    · exact la_nar h (n := 110) rfl
    · exact la_nar h (n := 111) rfl
    · exact la_nar h (n := 112) rfl
    · exact la_nar h (n := 113) rfl
    · exact la_nar h (n := 114) rfl
  · have hj : j < 4 := hj
    rcases (show j = 0 ∨ j = 1 ∨ j = 2 ∨ j = 3 by omega) with rfl | rfl | rfl | rfl
    · exact la_nar h (n := 125) rfl
    · exact la_nar h (n := 126) rfl
    · exact la_nar h (n := 127) rfl
    · exact la_nar h (n := 128) rfl
set_option maxRecDepth 100000 in
theorem la_sne (h : (Jvm.Cond.and given_1 narrow_1).before args s = true) : ∀ i j : Nat, i < 8 → j < 8 → i ≠ j → (Cond.not (Cond.eq (.string RX1 (113 + 2 * i)) (.string RX1 (113 + 2 * j)))).before args s = true ∨ (Cond.not (Cond.eq (.string RX1 (113 + 2 * j)) (.string RX1 (113 + 2 * i)))).before args s = true := by
  intro i j hi hj hne
  rcases (show i = 0 ∨ i = 1 ∨ i = 2 ∨ i = 3 ∨ i = 4 ∨ i = 5 ∨ i = 6 ∨ i = 7 by omega) with rfl | rfl | rfl | rfl | rfl | rfl | rfl | rfl
  · rcases (show j = 0 ∨ j = 1 ∨ j = 2 ∨ j = 3 ∨ j = 4 ∨ j = 5 ∨ j = 6 ∨ j = 7 by omega) with rfl | rfl | rfl | rfl | rfl | rfl | rfl | rfl
    · exact absurd rfl hne
    · exact Or.inl (la_nar h (n := 56) rfl)
    · exact Or.inl (la_nar h (n := 65) rfl)
    · exact Or.inl (la_nar h (n := 75) rfl)
    · exact Or.inl (la_nar h (n := 86) rfl)
    · exact Or.inl (la_nar h (n := 98) rfl)
    · exact Or.inl (la_nar h (n := 115) rfl)
    · exact Or.inl (la_nar h (n := 129) rfl)
  · rcases (show j = 0 ∨ j = 1 ∨ j = 2 ∨ j = 3 ∨ j = 4 ∨ j = 5 ∨ j = 6 ∨ j = 7 by omega) with rfl | rfl | rfl | rfl | rfl | rfl | rfl | rfl
    · exact Or.inr (la_nar h (n := 56) rfl)
    · exact absurd rfl hne
    · exact Or.inl (la_nar h (n := 66) rfl)
    · exact Or.inl (la_nar h (n := 76) rfl)
    · exact Or.inl (la_nar h (n := 87) rfl)
    · exact Or.inl (la_nar h (n := 99) rfl)
    · exact Or.inl (la_nar h (n := 116) rfl)
    · exact Or.inl (la_nar h (n := 130) rfl)
  · rcases (show j = 0 ∨ j = 1 ∨ j = 2 ∨ j = 3 ∨ j = 4 ∨ j = 5 ∨ j = 6 ∨ j = 7 by omega) with rfl | rfl | rfl | rfl | rfl | rfl | rfl | rfl
    · exact Or.inr (la_nar h (n := 65) rfl)
    · exact Or.inr (la_nar h (n := 66) rfl)
    · exact absurd rfl hne
    · exact Or.inl (la_nar h (n := 77) rfl)
    · exact Or.inl (la_nar h (n := 88) rfl)
    · exact Or.inl (la_nar h (n := 100) rfl)
    · exact Or.inl (la_nar h (n := 117) rfl)
    · exact Or.inl (la_nar h (n := 131) rfl)
  · rcases (show j = 0 ∨ j = 1 ∨ j = 2 ∨ j = 3 ∨ j = 4 ∨ j = 5 ∨ j = 6 ∨ j = 7 by omega) with rfl | rfl | rfl | rfl | rfl | rfl | rfl | rfl
    · exact Or.inr (la_nar h (n := 75) rfl)
    · exact Or.inr (la_nar h (n := 76) rfl)
    · exact Or.inr (la_nar h (n := 77) rfl)
    · exact absurd rfl hne
    · exact Or.inl (la_nar h (n := 89) rfl)
    · exact Or.inl (la_nar h (n := 101) rfl)
    · exact Or.inl (la_nar h (n := 118) rfl)
    · exact Or.inl (la_nar h (n := 132) rfl)
  · rcases (show j = 0 ∨ j = 1 ∨ j = 2 ∨ j = 3 ∨ j = 4 ∨ j = 5 ∨ j = 6 ∨ j = 7 by omega) with rfl | rfl | rfl | rfl | rfl | rfl | rfl | rfl
    · exact Or.inr (la_nar h (n := 86) rfl)
    · exact Or.inr (la_nar h (n := 87) rfl)
    · exact Or.inr (la_nar h (n := 88) rfl)
    · exact Or.inr (la_nar h (n := 89) rfl)
    · exact absurd rfl hne
    · exact Or.inl (la_nar h (n := 102) rfl)
    · exact Or.inl (la_nar h (n := 119) rfl)
    · exact Or.inl (la_nar h (n := 133) rfl)
  · rcases (show j = 0 ∨ j = 1 ∨ j = 2 ∨ j = 3 ∨ j = 4 ∨ j = 5 ∨ j = 6 ∨ j = 7 by omega) with rfl | rfl | rfl | rfl | rfl | rfl | rfl | rfl
    · exact Or.inr (la_nar h (n := 98) rfl)
    · exact Or.inr (la_nar h (n := 99) rfl)
    · exact Or.inr (la_nar h (n := 100) rfl)
    · exact Or.inr (la_nar h (n := 101) rfl)
    · exact Or.inr (la_nar h (n := 102) rfl)
    · exact absurd rfl hne
    · exact Or.inl (la_nar h (n := 120) rfl)
    · exact Or.inl (la_nar h (n := 134) rfl)
  · rcases (show j = 0 ∨ j = 1 ∨ j = 2 ∨ j = 3 ∨ j = 4 ∨ j = 5 ∨ j = 6 ∨ j = 7 by omega) with rfl | rfl | rfl | rfl | rfl | rfl | rfl | rfl
    · exact Or.inr (la_nar h (n := 115) rfl)
    · exact Or.inr (la_nar h (n := 116) rfl)
    · exact Or.inr (la_nar h (n := 117) rfl)
    · exact Or.inr (la_nar h (n := 118) rfl)
    · exact Or.inr (la_nar h (n := 119) rfl)
    · exact Or.inr (la_nar h (n := 120) rfl)
    · exact absurd rfl hne
    · exact Or.inl (la_nar h (n := 135) rfl)
  · rcases (show j = 0 ∨ j = 1 ∨ j = 2 ∨ j = 3 ∨ j = 4 ∨ j = 5 ∨ j = 6 ∨ j = 7 by omega) with rfl | rfl | rfl | rfl | rfl | rfl | rfl | rfl
    · exact Or.inr (la_nar h (n := 129) rfl)
    · exact Or.inr (la_nar h (n := 130) rfl)
    · exact Or.inr (la_nar h (n := 131) rfl)
    · exact Or.inr (la_nar h (n := 132) rfl)
    · exact Or.inr (la_nar h (n := 133) rfl)
    · exact Or.inr (la_nar h (n := 134) rfl)
    · exact Or.inr (la_nar h (n := 135) rfl)
    · exact absurd rfl hne
set_option maxRecDepth 100000 in
theorem la_NS (hts : ∀ w ∈ lw_tbl, w.before args s = true) (h : (Jvm.Cond.and given_1 narrow_1).before args s = true) : ∃ sa : Nat → Nat, ∀ z : ct_T, mm_NS (ct_E z sa []) (la_A s) s s.heap := by
  obtain ⟨adK, adV, hS, hK⟩ := vk_Sof (args := args) (s := s) (N := 8) (tm := fun i => .string RX1 (113 + 2 * i)) (len := mm_tl) (byt := mm_tb) (A := la_A s) (by decide) (la_sex h) (la_sco h) (la_sar h) (la_sle h) (la_sel h) (la_sne h) la_out
  obtain ⟨sa, hsa⟩ : ∃ sa : Nat → Nat, sa = fun c => if c < 200 then adK (c - 100) else adV (c - 200) := ⟨_, rfl⟩
  have e1 : ∀ i, i < 8 → sa (100 + i) = adK i := fun i hi => by
    rw [hsa]
    show (if 100 + i < 200 then adK (100 + i - 100) else adV (100 + i - 200)) = adK i
    rw [if_pos (by omega), Nat.add_sub_cancel_left]
  have e2 : ∀ i, sa (200 + i) = adV i := fun i => by
    rw [hsa]
    show (if 200 + i < 200 then adK (200 + i - 100) else adV (200 + i - 200)) = adV i
    rw [if_neg (by omega), Nat.add_sub_cancel_left]
  refine ⟨sa, fun z => ⟨fun i hi => ?_, ⟨fun i hi => ?_, fun i j hi hj e => ?_⟩, va_Zof (hts _ (lt_2 _ (List.mem_of_getElem? (i := 105) rfl))) (hts _ (lt_1 _ (List.mem_of_getElem? (i := 11) rfl))) (va_eqi (la_nar h (n := 13) rfl)) la_out, va_Zqof (hts _ (lt_2 _ (List.mem_of_getElem? (i := 121) rfl))) (hts _ (lt_1 _ (List.mem_of_getElem? (i := 13) rfl))) (la_nar h (n := 14) rfl) la_out⟩⟩
  · show vk_R RX1 (113 + 2 * i) (mm_tx i) (sa (100 + i)) s
    rw [e1 i hi]
    exact vk_R.of (la_srf hts i hi) (hK i hi)
  · have q := hS.1 i hi
    rw [← e1 i hi, ← e2 i] at q
    exact q
  · have e : sa (100 + i) = sa (100 + j) := e
    rw [e1 i hi, e1 j hj] at e
    exact hS.2 i j hi hj e
theorem la_N (hts : ∀ w ∈ lw_tbl, w.before args s = true) (h : (Jvm.Cond.and given_1 narrow_1).before args s = true) : ∃ sa : Nat → Nat, ∀ z : ct_T, mm_N (ct_E z sa []) (la_A s) s s.heap := by
  obtain ⟨sa, hsa⟩ := la_NS hts h
  exact ⟨sa, fun z => ⟨(la_Nn hts).1, la_TA_AT_FIRST hts h, la_TA_LEAST hts h, la_TA_GREATEST hts h, hsa z⟩⟩
theorem la_K {l : Launch} (hg : ∀ w ∈ GW, w.before args s = true) : ∃ z : ct_T, z.2.2 = l ∧ va_K z.1 vwCl (ct_ty z) s := by
  have hk : ∀ c : Nat, ∃ d : ClassId × (Nat → Nat), ∀ q, vwCl[c]? = some q → u_Kn s q.1 q.2.1 q.2.2 d.1 d.2 := by
    intro c
    by_cases hc : c < 9
    · rcases (show c = 0 ∨ c = 1 ∨ c = 2 ∨ c = 3 ∨ c = 4 ∨ c = 5 ∨ c = 6 ∨ c = 7 ∨ c = 8 by omega) with rfl | rfl | rfl | rfl | rfl | rfl | rfl | rfl | rfl
      · obtain ⟨cC, iS, hu⟩ := u_known (C := RX0) (T := TX0) (N := 1) hg inlX0 (hg _ wm_1_18)
        exact ⟨(cC, iS), fun q hq => by cases hq; exact hu⟩
      · obtain ⟨cC, iS, hu⟩ := u_known (C := RX1) (T := TX1) (N := 7) hg inlX1 (hg _ wm_1_14)
        exact ⟨(cC, iS), fun q hq => by cases hq; exact hu⟩
      · obtain ⟨cC, iS, hu⟩ := u_known (C := RX2) (T := TX2) (N := 2) hg inlX2 (hg _ wm_2_2)
        exact ⟨(cC, iS), fun q hq => by cases hq; exact hu⟩
      · obtain ⟨cC, iS, hu⟩ := u_known (C := RX3) (T := TX3) (N := 9) hg inlX3 (hg _ wm_2_6)
        exact ⟨(cC, iS), fun q hq => by cases hq; exact hu⟩
      · obtain ⟨cC, iS, hu⟩ := u_known (C := RX4) (T := TX4) (N := 6) hg inlX4 (hg _ wm_1_22)
        exact ⟨(cC, iS), fun q hq => by cases hq; exact hu⟩
      · obtain ⟨cC, iS, hu⟩ := u_known (C := RX5) (T := TX5) (N := 7) hg inlX5 (hg _ wm_2_14)
        exact ⟨(cC, iS), fun q hq => by cases hq; exact hu⟩
      · obtain ⟨cC, iS, hu⟩ := u_known (C := RX6) (T := TX6) (N := 7) hg inlX6 (hg _ wm_2_10)
        exact ⟨(cC, iS), fun q hq => by cases hq; exact hu⟩
      · obtain ⟨cC, iS, hu⟩ := u_known (C := RX7) (T := TX7) (N := 7) hg inlX7 (hg _ wm_1_1)
        exact ⟨(cC, iS), fun q hq => by cases hq; exact hu⟩
      · obtain ⟨cC, iS, hu⟩ := u_known (C := RX8) (T := TX8) (N := 37) hg inlX8 (hg _ wm_1_4)
        exact ⟨(cC, iS), fun q hq => by cases hq; exact hu⟩
    · exact ⟨(0, fun _ => 0), fun q hq => absurd (List.getElem?_eq_some_iff.mp hq).1 hc⟩
  obtain ⟨D, hD⟩ := Classical.axiomOfChoice hk
  obtain ⟨cI, kI, cpI, i1, i2, i3⟩ := Cond.arrayClass_spec (hg _ wm_2_21)
  obtain ⟨cL, kL, cpL, l1, l2, l3⟩ := Cond.arrayClass_spec (hg _ wm_4_18)
  obtain ⟨cB, kB, cpB, b1, b2, b3⟩ := Cond.arrayClass_spec (hg _ wm_3_17)
  refine ⟨((fun c => (D c).1, fun c => (D c).2), (cI, cL, cB), l), rfl, fun c q hq => hD c q hq, fun k q hk => ?_⟩
  have hk3 : k < 3 := (List.getElem?_eq_some_iff.mp hk).1
  rcases (show k = 0 ∨ k = 1 ∨ k = 2 by omega) with rfl | rfl | rfl
  · cases hk
    exact ⟨fun n v => ⟨fun k h => (by cases h), kI, i2, cpI, i3⟩, i1⟩
  · cases hk
    exact ⟨fun n v => ⟨fun k h => (by cases h), kL, l2, cpL, l3⟩, l1⟩
  · cases hk
    exact ⟨fun n v => ⟨fun k h => (by cases h), kB, b2, cpB, b3⟩, b1⟩
end LE
