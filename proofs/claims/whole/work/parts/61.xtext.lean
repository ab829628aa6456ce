section TROWS
variable {g : mm_G} {E : mm_E} {i : mm_I} {own : String} {post : Option Value → mm_M → Prop} {pc : Nat} {lv : List (Nat × Value)} {rest : List Value} {M M1 : mm_M}
theorem jr_cT0 (hg : mm_Ok g E i own) {w idx : Nat} {j : mm_I} {v : Value} (hlk : mm_LV own idx "java/lang/String" j 0) (hw : w < 8) (hlv : j.2.2.2.2 < i.2.2.2.2) (hml : j.2.2.1 ≤ 10) (hcat : (rest.map fun v => v.category).sum ≤ 8) (hd : decode i.2.1 pc = .ok (.invokevirtual idx, 3)) (hcal : mm_Cal E j [.ref (E.1 (100 + w))] M (ret1 v M1)) (k : mm_J g E i post (pc + 3) lv (v :: rest) M1) : mm_J g E i post pc lv (.ref (E.1 (100 + w)) :: rest) M := jr_callVS (As := []) hg hlk hw rfl hlv hml hcat hd hcal (fun r M' h => by obtain ⟨rfl, rfl⟩ := h; exact k)
theorem jr_cT1 (hg : mm_Ok g E i own) {w idx : Nat} {j : mm_I} {a0 v : Value} (hlk : mm_LV own idx "java/lang/String" j 1) (hw : w < 8) (hlv : j.2.2.2.2 < i.2.2.2.2) (hml : j.2.2.1 ≤ 10) (hcat : (rest.map fun v => v.category).sum ≤ 8) (hd : decode i.2.1 pc = .ok (.invokevirtual idx, 3)) (hcal : mm_Cal E j [.ref (E.1 (100 + w)), a0] M (ret1 v M1)) (k : mm_J g E i post (pc + 3) lv (v :: rest) M1) : mm_J g E i post pc lv (a0 :: .ref (E.1 (100 + w)) :: rest) M := jr_callVS (As := [a0]) hg hlk hw rfl hlv hml hcat hd hcal (fun r M' h => by obtain ⟨rfl, rfl⟩ := h; exact k)
end TROWS
/-- the class's laws while they read: told values, the place, the fault and its place -/
def zX_g (s : zS) (rv : Nat → Nat) (a f : Nat) (fp : Int32) (M : mm_M) : Prop := M.1 1 3 = nI (s 0 4) ∧ (∀ j, j < s 0 4 → M.1 10 j = nI (s 11 j)) ∧ (∀ j, j < 8 → M.1 9 j = zmv (rv j)) ∧ M.1 1 4 = nI a ∧ M.1 1 5 = nI f ∧ M.1 1 6 = fp
theorem zX_g.pl {s : zS} {rv : Nat → Nat} {a f : Nat} {fp : Int32} {M : mm_M} (h : zX_g s rv a f fp M) (b : Nat) : zX_g s rv b f fp (mm_si M 1 (upd (M.1 1) 4 (nI b))) := ⟨h.1, h.2.1, h.2.2.1, rfl, h.2.2.2.2⟩
abbrev zbl (M : mm_M) (x y : Nat) : mm_M := mm_si (mm_si M 1 (upd (M.1 1) 5 (nI x))) 1 (upd ((mm_si M 1 (upd (M.1 1) 5 (nI x))).1 1) 6 (nI y))
theorem zX_g.bl {s : zS} {rv : Nat → Nat} {a f : Nat} {fp : Int32} {M : mm_M} (h : zX_g s rv a f fp M) (x y : Nat) : zX_g s rv a x (nI y) (zbl M x y) := ⟨h.1, h.2.1, h.2.2.1, h.2.2.2.1, rfl, rfl⟩
theorem zX_g.tl {s : zS} {rv : Nat → Nat} {a f : Nat} {fp : Int32} {M : mm_M} (h : zX_g s rv a f fp M) (k v : Nat) : zX_g s (zup rv k (v + 1)) a f fp (mm_si M 9 (upd (M.1 9) k (nI v))) := ⟨h.1, h.2.1, fun j hj => by
  show upd (M.1 9) k (nI v) j = zmv (zup rv k (v + 1) j)
  by_cases e : j = k
  · rw [e, upd_s, zup_s, zmv_s]
  · rw [upd_n e, zup_n e]; exact h.2.2.1 j hj, h.2.2.2⟩
theorem mm_same.bl {cs : List Nat} {M M1 : mm_M} (h : mm_same cs M M1) (hc : 1 ∈ cs) (x y : Nat) : mm_same cs M (zbl M1 x y) := (h.si hc).si hc
theorem mm_low_n : ∀ k, k < 8 → mm_low k = nI (zlo k) := by decide +kernel
theorem mm_high_n : ∀ k, k < 8 → mm_high k = nI (zhi k) := by decide +kernel
theorem mm_first_n : ∀ k, k < 8 → mm_first k = nI (zfi k) := by decide +kernel
theorem z_lh : ∀ k, k < 8 → zlo k ≤ 34 ∧ zhi k ≤ 100 := by decide +kernel
theorem z_rvk_le {rv : Nat → Nat} (h : z_rvk rv) {k : Nat} (hk : k < 8) : rv k ≤ 101 := by
  have := z_lh k hk
  rcases h k hk with q | q <;> omega

set_option maxRecDepth 100000 in
theorem c_X1_byteAt {E : mm_E} (hI : mm_FX E) {M : mm_M} {s : zS} {rv : Nat → Nat} {a f : Nat} {fp : Int32} (Rg : zX_g s rv a f fp M) (Wt : zW_t s) {j : Nat} (hj : j < s 0 4) : mm_Cal E mX1_byteAt [.ref (E.1 1), .int (nI j)] M (ret1 (.int (nI (s 11 j))) M) := by
  have hn := Wt.1
  refine jr_entry RX1 (by decide +kernel) (Nat.le_of_ble_eq_true rfl) (fun g hg => ?_)
  refine jr_lv (lv' := [(0, .ref (E.1 1)), (1, .int (nI j))]) [0, 1] rfl ?_
  refine jr_iload_n hg 1 rfl rfl dX1_byteAt_0 ?_
  refine jr_if_ltN hg dX1_byteAt_1 (tgt := 30) (by decide) (by omega) ?_
  refine jr_iload_n hg 1 rfl rfl dX1_byteAt_4 ?_
  refine jr_aload_n hg 0 rfl rfl dX1_byteAt_5 ?_
  refine gf_X1_34 hg (hI 1 (by decide)) dX1_byteAt_6 ?_
  refine jr_top (Rg.1) ?_
  refine jr_icmp_geN (tgt := 30) hg dX1_byteAt_9 (by decide) (by omega) (by omega) (fun h => by omega) (fun h9 => ?_)
  refine jr_iload_n hg 1 rfl rfl dX1_byteAt_12 ?_
  refine jr_aload_n hg 0 rfl rfl dX1_byteAt_13 ?_
  refine gf_X1_18 hg (hI 1 (by decide)) dX1_byteAt_14 ?_
  refine jr_alen hg (t0 := 0) (hI 10 (by decide)) (ac_10 _ _) rfl rfl dX1_byteAt_17 ?_
  refine jr_icmp_geN (tgt := 30) hg dX1_byteAt_18 (by decide) (by omega) (by omega) (fun h => by omega) (fun h18 => ?_)
  refine jr_aload_n hg 0 rfl rfl dX1_byteAt_21 ?_
  refine gf_X1_18 hg (hI 1 (by decide)) dX1_byteAt_22 ?_
  refine jr_iload_n hg 1 rfl rfl dX1_byteAt_25 ?_
  refine jr_ialdN hg (n := 160) (by omega) (by decide) (hI 10 (by decide)) (ac_10 _ _) dX1_byteAt_26 ?_
  refine jr_top (Rg.2.1 _ hj) ?_
  refine jr_goto (tgt := 31) hg dX1_byteAt_27 (by decide) ?_
  exact jr_iret hg rfl dX1_byteAt_31 (⟨rfl, rfl⟩)

set_option maxRecDepth 100000 in
theorem c_byteAt_out {E : mm_E} (hI : mm_FX E) {M : mm_M} {s : zS} {rv : Nat → Nat} {a f : Nat} {fp : Int32} (Rg : zX_g s rv a f fp M) (Wt : zW_t s) {j : Nat} (hj : s 0 4 ≤ j) (hj2 : j < 2 ^ 31) : mm_Cal E mX1_byteAt [.ref (E.1 1), .int (nI j)] M (ret1 (.int (-1)) M) := by
  have hn := Wt.1
  refine jr_entry RX1 (by decide +kernel) (Nat.le_of_ble_eq_true rfl) (fun g hg => ?_)
  refine jr_lv (lv' := [(0, .ref (E.1 1)), (1, .int (nI j))]) [0, 1] rfl ?_
  refine jr_iload_n hg 1 rfl rfl dX1_byteAt_0 ?_
  refine jr_if_ltN hg dX1_byteAt_1 (tgt := 30) (by decide) (by omega) ?_
  refine jr_iload_n hg 1 rfl rfl dX1_byteAt_4 ?_
  refine jr_aload_n hg 0 rfl rfl dX1_byteAt_5 ?_
  refine gf_X1_34 hg (hI 1 (by decide)) dX1_byteAt_6 ?_
  refine jr_top (Rg.1) ?_
  refine jr_icmp_geN (tgt := 30) hg dX1_byteAt_9 (by decide) (by omega) (by omega) (fun h9 => ?_) (fun h => by omega)
  refine jr_iconst hg (-1) dX1_byteAt_30 (by decide) ?_
  exact jr_iret hg rfl dX1_byteAt_31 (⟨rfl, rfl⟩)

set_option maxRecDepth 100000 in
theorem c_X1_skipBlanks {E : mm_E} (hI : mm_FX E) {M : mm_M} {s : zS} {rv : Nat → Nat} {a f : Nat} {fp : Int32} (Rg : zX_g s rv a f fp M) (Wt : zW_t s) (ha : a ≤ s 0 4) : mm_Cal E mX1_skipBlanks [.ref (E.1 1)] M (fun v M' => v = none ∧ zX_g s rv (z_sp s a) f fp M' ∧ mm_same [1, 9] M M') := by
  have hn := Wt.1
  refine jr_entry RX1 (by decide +kernel) (Nat.le_of_ble_eq_true rfl) (fun g hg => ?_)
  refine jr_lv (lv' := [(0, .ref (E.1 1))]) [0] rfl ?_
  have lp0 : ∀ p : Nat, p ≤ s 0 4 → ∀ M1, zX_g s rv p f fp M1 → mm_same [1, 9] M M1 → z_sp s p = z_sp s a → mm_J g E mX1_skipBlanks (fun v M' => v = none ∧ zX_g s rv (z_sp s a) f fp M' ∧ mm_same [1, 9] M M') 0 [(0, .ref (E.1 1))] [] (M1) := by
    refine jr_up (S := fun p => ∀ M1, zX_g s rv p f fp M1 → mm_same [1, 9] M M1 → z_sp s p = z_sp s a → mm_J g E mX1_skipBlanks (fun v M' => v = none ∧ zX_g s rv (z_sp s a) f fp M' ∧ mm_same [1, 9] M M') 0 [(0, .ref (E.1 1))] [] (M1)) (n := s 0 4) ?_ ?_
    · intro M1 hx hs hz
      show mm_J g E mX1_skipBlanks (fun v M' => v = none ∧ zX_g s rv (z_sp s a) f fp M' ∧ mm_same [1, 9] M M') 0 [(0, .ref (E.1 1))] [] (M1)
      refine jr_aload_n hg 0 rfl rfl dX1_skipBlanks_0 ?_
      refine gf_X1_53 hg (hI 1 (by decide)) dX1_skipBlanks_1 ?_
      refine jr_top (hx.2.2.2.1) ?_
      refine jr_aload_n hg 0 rfl rfl dX1_skipBlanks_4 ?_
      refine gf_X1_34 hg (hI 1 (by decide)) dX1_skipBlanks_5 ?_
      refine jr_top (hx.1) ?_
      refine jr_icmp_geN (tgt := 37) hg dX1_skipBlanks_8 (by decide) (by omega) (by omega) (fun h8 => ?_) (fun h => by omega)
      exact jr_vret hg rfl dX1_skipBlanks_37 (⟨rfl, by rw [← hz, z_sp, z_ru_e (Nat.le_refl _)]; exact hx, hs⟩)
    · intro p hp ih M1 hx hs hz
      show mm_J g E mX1_skipBlanks (fun v M' => v = none ∧ zX_g s rv (z_sp s a) f fp M' ∧ mm_same [1, 9] M M') 0 [(0, .ref (E.1 1))] [] (M1)
      have hb := Wt.2 p hp
      refine jr_aload_n hg 0 rfl rfl dX1_skipBlanks_0 ?_
      refine gf_X1_53 hg (hI 1 (by decide)) dX1_skipBlanks_1 ?_
      refine jr_top (hx.2.2.2.1) ?_
      refine jr_aload_n hg 0 rfl rfl dX1_skipBlanks_4 ?_
      refine gf_X1_34 hg (hI 1 (by decide)) dX1_skipBlanks_5 ?_
      refine jr_top (hx.1) ?_
      refine jr_icmp_geN (tgt := 37) hg dX1_skipBlanks_8 (by decide) (by omega) (by omega) (fun h => by omega) (fun h8 => ?_)
      refine jr_aload_n hg 0 rfl rfl dX1_skipBlanks_11 ?_
      refine jr_aload_n hg 0 rfl rfl dX1_skipBlanks_12 ?_
      refine gf_X1_53 hg (hI 1 (by decide)) dX1_skipBlanks_13 ?_
      refine jr_top (hx.2.2.2.1) ?_
      refine jr_cV1v hg lk_X1_73 (hI 1 (by decide)) rfl rfl (by decide) (by decide) (Nat.le_of_ble_eq_true rfl) dX1_skipBlanks_16 (c_X1_byteAt hI hx Wt hp) ?_
      refine jr_bipush hg (nI 32) dX1_skipBlanks_19 (by decide) ?_
      refine jr_icmp_neN (tgt := 37) hg dX1_skipBlanks_21 (by decide) (by omega) (by omega) (fun h21 => ?_) (fun h21 => ?_)
      · exact jr_vret hg rfl dX1_skipBlanks_37 (⟨rfl, by rw [← hz, z_sp, z_ru_f (by simp [z_bl, h21])]; exact hx, hs⟩)
      · refine jr_aload_n hg 0 rfl rfl dX1_skipBlanks_24 ?_
        refine jr_dup hg dX1_skipBlanks_25 rfl ?_
        refine gf_X1_53 hg (hI 1 (by decide)) dX1_skipBlanks_26 ?_
        refine jr_top (hx.2.2.2.1) ?_
        refine jr_iconst hg (nI 1) dX1_skipBlanks_29 (by decide) ?_
        refine jr_iaddN hg dX1_skipBlanks_30 ?_
        refine pf_X1_53 hg (hI 1 (by decide)) dX1_skipBlanks_31 ?_
        refine jr_goto (tgt := 0) hg dX1_skipBlanks_34 (by decide) ?_
        exact jr_lv [0] rfl (ih _ (hx.pl (p + 1)) (hs.si (by decide)) ((z_ru_t (P := z_bl s) hp (by simp [z_bl, h21])).symm.trans hz))
  exact jr_lv [0] rfl (lp0 a ha M Rg mm_same.rf rfl)

set_option maxRecDepth 100000 in
theorem c_X1_blame {E : mm_E} (hI : mm_FX E) {M : mm_M} {x y : Nat} : mm_Cal E mX1_blame [.ref (E.1 1), .int (nI x), .int (nI y)] M (ret0 (zbl M x y)) := by
  refine jr_entry RX1 (by decide +kernel) (Nat.le_of_ble_eq_true rfl) (fun g hg => ?_)
  refine jr_lv (lv' := [(0, .ref (E.1 1)), (1, .int (nI x)), (2, .int (nI y))]) [0, 1, 2] rfl ?_
  refine jr_aload_n hg 0 rfl rfl dX1_blame_0 ?_
  refine jr_iload_n hg 1 rfl rfl dX1_blame_1 ?_
  refine pf_X1_42 hg (hI 1 (by decide)) dX1_blame_2 ?_
  refine jr_aload_n hg 0 rfl rfl dX1_blame_5 ?_
  refine jr_iload_n hg 2 rfl rfl dX1_blame_6 ?_
  refine pf_X1_30 hg (hI 1 (by decide)) dX1_blame_7 ?_
  exact jr_vret hg rfl dX1_blame_10 (⟨rfl, rfl⟩)

set_option maxRecDepth 100000 in
theorem c_X1_isLetter {E : mm_E} (hI : mm_FX E) {M : mm_M} {x : Nat} (hx : x < 256) : mm_Cal E mX1_isLetter [.int (nI x)] M (ret1 (.int (nI (z_isl x).toNat)) M) := by
  refine jr_entry RX1 (by decide +kernel) (Nat.le_of_ble_eq_true rfl) (fun g hg => ?_)
  refine jr_lv (lv' := [(0, .int (nI x))]) [0] rfl ?_
  refine jr_iload_n hg 0 rfl rfl dX1_isLetter_0 ?_
  refine jr_bipush hg (nI 97) dX1_isLetter_1 (by decide) ?_
  refine jr_icmp_ltN (tgt := 16) hg dX1_isLetter_3 (by decide) (by omega) (by omega) (fun h3 => ?_) (fun h3 => ?_)
  · refine jr_iconst hg (nI 0) dX1_isLetter_16 (by decide) ?_
    exact jr_zret hg rfl (by first | exact Or.inl rfl | exact Or.inr rfl | exact z01 _) dX1_isLetter_17 (⟨by rw [z_isl, decide_eq_false (by omega)]; rfl, rfl⟩)
  · refine jr_iload_n hg 0 rfl rfl dX1_isLetter_6 ?_
    refine jr_bipush hg (nI 122) dX1_isLetter_7 (by decide) ?_
    refine jr_icmp_gtN (tgt := 16) hg dX1_isLetter_9 (by decide) (by omega) (by omega) (fun h9 => ?_) (fun h9 => ?_)
    · refine jr_iconst hg (nI 0) dX1_isLetter_16 (by decide) ?_
      exact jr_zret hg rfl (by first | exact Or.inl rfl | exact Or.inr rfl | exact z01 _) dX1_isLetter_17 (⟨by rw [z_isl, decide_eq_false (by omega)]; rfl, rfl⟩)
    · refine jr_iconst hg (nI 1) dX1_isLetter_12 (by decide) ?_
      refine jr_goto (tgt := 17) hg dX1_isLetter_13 (by decide) ?_
      exact jr_zret hg rfl (by first | exact Or.inl rfl | exact Or.inr rfl | exact z01 _) dX1_isLetter_17 (⟨by rw [z_isl, decide_eq_true (by omega)]; rfl, rfl⟩)

set_option maxRecDepth 100000 in
theorem c_X1_isFigure {E : mm_E} (hI : mm_FX E) {M : mm_M} {x : Nat} (hx : x < 256) : mm_Cal E mX1_isFigure [.int (nI x)] M (ret1 (.int (nI (z_isf x).toNat)) M) := by
  refine jr_entry RX1 (by decide +kernel) (Nat.le_of_ble_eq_true rfl) (fun g hg => ?_)
  refine jr_lv (lv' := [(0, .int (nI x))]) [0] rfl ?_
  refine jr_iload_n hg 0 rfl rfl dX1_isFigure_0 ?_
  refine jr_bipush hg (nI 48) dX1_isFigure_1 (by decide) ?_
  refine jr_icmp_ltN (tgt := 16) hg dX1_isFigure_3 (by decide) (by omega) (by omega) (fun h3 => ?_) (fun h3 => ?_)
  · refine jr_iconst hg (nI 0) dX1_isFigure_16 (by decide) ?_
    exact jr_zret hg rfl (by first | exact Or.inl rfl | exact Or.inr rfl | exact z01 _) dX1_isFigure_17 (⟨by rw [z_isf, decide_eq_false (by omega)]; rfl, rfl⟩)
  · refine jr_iload_n hg 0 rfl rfl dX1_isFigure_6 ?_
    refine jr_bipush hg (nI 57) dX1_isFigure_7 (by decide) ?_
    refine jr_icmp_gtN (tgt := 16) hg dX1_isFigure_9 (by decide) (by omega) (by omega) (fun h9 => ?_) (fun h9 => ?_)
    · refine jr_iconst hg (nI 0) dX1_isFigure_16 (by decide) ?_
      exact jr_zret hg rfl (by first | exact Or.inl rfl | exact Or.inr rfl | exact z01 _) dX1_isFigure_17 (⟨by rw [z_isf, decide_eq_false (by omega)]; rfl, rfl⟩)
    · refine jr_iconst hg (nI 1) dX1_isFigure_12 (by decide) ?_
      refine jr_goto (tgt := 17) hg dX1_isFigure_13 (by decide) ?_
      exact jr_zret hg rfl (by first | exact Or.inl rfl | exact Or.inr rfl | exact z01 _) dX1_isFigure_17 (⟨by rw [z_isf, decide_eq_true (by omega)]; rfl, rfl⟩)

set_option maxRecDepth 100000 in
theorem c_X1_isInBounds {E : mm_E} (hI : mm_FX E) {M : mm_M} {k v : Nat} (hk : k < 8) (hv : v < 2 ^ 31) : mm_Cal E mX1_isInBounds [.int (nI k), .int (nI v)] M (ret1 (.int (nI (decide (zlo k ≤ v ∧ v ≤ zhi k)).toNat)) M) := by
  have hlh := z_lh k hk
  refine jr_entry RX1 (by decide +kernel) (Nat.le_of_ble_eq_true rfl) (fun g hg => ?_)
  refine jr_lv (lv' := [(0, .int (nI k)), (1, .int (nI v))]) [0, 1] rfl ?_
  obtain ⟨tl, hz_LEAST, ht_LEAST⟩ := hg.N.2.2.1
  obtain ⟨th, hz_GREATEST, ht_GREATEST⟩ := hg.N.2.2.2.1
  refine jr_iload_n hg 0 rfl rfl dX1_isInBounds_0 ?_
  refine jr_if_ltN hg dX1_isInBounds_1 (tgt := 32) (by decide) (by omega) ?_
  refine jr_iload_n hg 0 rfl rfl dX1_isInBounds_4 ?_
  refine jr_bipush hg (nI 8) dX1_isInBounds_5 (by decide) ?_
  refine jr_icmp_geN (tgt := 32) hg dX1_isInBounds_7 (by decide) (by omega) (by omega) (fun h => by omega) (fun h7 => ?_)
  refine jr_iload_n hg 1 rfl rfl dX1_isInBounds_10 ?_
  refine jr_gets hg hz_LEAST wm_15_16 dX1_isInBounds_11 ?_
  refine jr_iload_n hg 0 rfl rfl dX1_isInBounds_14 ?_
  refine jr_ti hg ht_LEAST (by omega) (by decide) dX1_isInBounds_15 ?_
  refine jr_top (mm_low_n k hk) ?_
  refine jr_icmp_ltN (tgt := 32) hg dX1_isInBounds_16 (by decide) (by omega) (by omega) (fun h16 => ?_) (fun h16 => ?_)
  · refine jr_iconst hg (nI 0) dX1_isInBounds_32 (by decide) ?_
    exact jr_zret hg rfl (by first | exact Or.inl rfl | exact Or.inr rfl | exact z01 _) dX1_isInBounds_33 (⟨by rw [decide_eq_false (by omega)]; rfl, rfl⟩)
  · refine jr_iload_n hg 1 rfl rfl dX1_isInBounds_19 ?_
    refine jr_gets hg hz_GREATEST wm_15_17 dX1_isInBounds_20 ?_
    refine jr_iload_n hg 0 rfl rfl dX1_isInBounds_23 ?_
    refine jr_ti hg ht_GREATEST (by omega) (by decide) dX1_isInBounds_24 ?_
    refine jr_top (mm_high_n k hk) ?_
    refine jr_icmp_gtN (tgt := 32) hg dX1_isInBounds_25 (by decide) (by omega) (by omega) (fun h25 => ?_) (fun h25 => ?_)
    · refine jr_iconst hg (nI 0) dX1_isInBounds_32 (by decide) ?_
      exact jr_zret hg rfl (by first | exact Or.inl rfl | exact Or.inr rfl | exact z01 _) dX1_isInBounds_33 (⟨by rw [decide_eq_false (by omega)]; rfl, rfl⟩)
    · refine jr_iconst hg (nI 1) dX1_isInBounds_28 (by decide) ?_
      refine jr_goto (tgt := 33) hg dX1_isInBounds_29 (by decide) ?_
      exact jr_zret hg rfl (by first | exact Or.inl rfl | exact Or.inr rfl | exact z01 _) dX1_isInBounds_33 (⟨by rw [decide_eq_true (by omega)]; rfl, rfl⟩)

set_option maxRecDepth 100000 in
theorem c_X1_wordOf {E : mm_E} {M : mm_M} {w : Nat} (hw : w < 8) : mm_Cal E mX1_wordOf [.int (nI w)] M (ret1 (.ref (E.1 (100 + w))) M) := by
  refine jr_entry RX1 (by decide +kernel) (Nat.le_of_ble_eq_true rfl) (fun g hg => ?_)
  refine jr_lv (lv' := [(0, .int (nI w))]) [0] rfl ?_
  refine jr_iload_n hg 0 rfl rfl dX1_wordOf_0 ?_
  have hr := hg.NS.1 w hw
  rcases (show w = 0 ∨ w = 1 ∨ w = 2 ∨ w = 3 ∨ w = 4 ∨ w = 5 ∨ w = 6 ∨ w = 7 by omega) with rfl | rfl | rfl | rfl | rfl | rfl | rfl | rfl
  · refine jr_tabIn (tgt := 44) hg dX1_wordOf_1 (by decide) (by decide) rfl (by decide) ?_
    refine jr_ldcS hg hr dX1_wordOf_44 ?_
    exact jr_aret hg rfl dX1_wordOf_46 ⟨rfl, rfl⟩
  · refine jr_tabIn (tgt := 47) hg dX1_wordOf_1 (by decide) (by decide) rfl (by decide) ?_
    refine jr_ldcS hg hr dX1_wordOf_47 ?_
    exact jr_aret hg rfl dX1_wordOf_49 ⟨rfl, rfl⟩
  · refine jr_tabIn (tgt := 50) hg dX1_wordOf_1 (by decide) (by decide) rfl (by decide) ?_
    refine jr_ldcS hg hr dX1_wordOf_50 ?_
    exact jr_aret hg rfl dX1_wordOf_52 ⟨rfl, rfl⟩
  · refine jr_tabIn (tgt := 53) hg dX1_wordOf_1 (by decide) (by decide) rfl (by decide) ?_
    refine jr_ldcS hg hr dX1_wordOf_53 ?_
    exact jr_aret hg rfl dX1_wordOf_55 ⟨rfl, rfl⟩
  · refine jr_tabIn (tgt := 56) hg dX1_wordOf_1 (by decide) (by decide) rfl (by decide) ?_
    refine jr_ldcS hg hr dX1_wordOf_56 ?_
    exact jr_aret hg rfl dX1_wordOf_58 ⟨rfl, rfl⟩
  · refine jr_tabIn (tgt := 59) hg dX1_wordOf_1 (by decide) (by decide) rfl (by decide) ?_
    refine jr_ldcS hg hr dX1_wordOf_59 ?_
    exact jr_aret hg rfl dX1_wordOf_61 ⟨rfl, rfl⟩
  · refine jr_tabIn (tgt := 62) hg dX1_wordOf_1 (by decide) (by decide) rfl (by decide) ?_
    refine jr_ldcS hg hr dX1_wordOf_62 ?_
    exact jr_aret hg rfl dX1_wordOf_64 ⟨rfl, rfl⟩
  · refine jr_tabOut (tgt := 65) hg dX1_wordOf_1 (Or.inr (by decide)) (by decide) ?_
    refine jr_ldcS hg hr dX1_wordOf_65 ?_
    exact jr_aret hg rfl dX1_wordOf_67 ⟨rfl, rfl⟩

set_option maxRecDepth 100000 in
theorem c_X1_isWord {E : mm_E} (hI : mm_FX E) {M : mm_M} {s : zS} {rv : Nat → Nat} {a f : Nat} {fp : Int32} (Rg : zX_g s rv a f fp M) (Wt : zW_t s) {w b e : Nat} (hw : w < 8) (hbe : b ≤ e) (he : e ≤ s 0 4) : mm_Cal E mX1_isWord [.ref (E.1 1), .ref (E.1 (100 + w)), .int (nI b), .int (nI e)] M (ret1 (.int (nI (z_wm s b e w).toNat)) M) := by
  have hn := Wt.1
  have hwl := z_wl_1 w hw
  refine jr_entry RX1 (by decide +kernel) (Nat.le_of_ble_eq_true rfl) (fun g hg => ?_)
  refine jr_lv (lv' := [(0, .ref (E.1 1)), (1, .ref (E.1 (100 + w))), (2, .int (nI b)), (3, .int (nI e))]) [0, 1, 2, 3] rfl ?_
  refine jr_aload_n hg 1 rfl rfl dX1_isWord_0 ?_
  refine jr_cT0 hg lk_X1_98 hw (by decide) (by decide) (Nat.le_of_ble_eq_true rfl) dX1_isWord_1 (c_length hw) ?_
  refine jr_iload_n hg 3 rfl rfl dX1_isWord_4 ?_
  refine jr_iload_n hg 2 rfl rfl dX1_isWord_5 ?_
  refine jr_isubN hg dX1_isWord_6 (by omega) ?_
  refine jr_icmp_eqN (tgt := 12) hg dX1_isWord_7 (by decide) (by omega) (by omega) (fun h7 => ?_) (fun h7 => ?_)
  · refine jr_iconst hg (nI 0) dX1_isWord_12 (by decide) ?_
    refine jr_istore hg dX1_isWord_13 (by decide) rfl ?_
    have lp15 : ∀ j : Nat, j ≤ z_wl w → z_all (fun j => z_wc w j == s 11 (b + j)) j = true → mm_J g E mX1_isWord (ret1 (.int (nI (z_wm s b e w).toNat)) M) 15 [(0, .ref (E.1 1)), (1, .ref (E.1 (100 + w))), (2, .int (nI b)), (3, .int (nI e)), (4, .int (nI j))] [] (M) := by
      refine jr_up (S := fun j => z_all (fun j => z_wc w j == s 11 (b + j)) j = true → mm_J g E mX1_isWord (ret1 (.int (nI (z_wm s b e w).toNat)) M) 15 [(0, .ref (E.1 1)), (1, .ref (E.1 (100 + w))), (2, .int (nI b)), (3, .int (nI e)), (4, .int (nI j))] [] (M)) (n := z_wl w) ?_ ?_
      · intro hal
        show mm_J g E mX1_isWord (ret1 (.int (nI (z_wm s b e w).toNat)) M) 15 [(0, .ref (E.1 1)), (1, .ref (E.1 (100 + w))), (2, .int (nI b)), (3, .int (nI e)), (4, .int (nI (z_wl w)))] [] (M)
        refine jr_iload hg 4 rfl dX1_isWord_15 ?_
        refine jr_aload_n hg 1 rfl rfl dX1_isWord_17 ?_
        refine jr_cT0 hg lk_X1_98 hw (by decide) (by decide) (Nat.le_of_ble_eq_true rfl) dX1_isWord_18 (c_length hw) ?_
        refine jr_icmp_geN (tgt := 49) hg dX1_isWord_21 (by decide) (by omega) (by omega) (fun h21 => ?_) (fun h => by omega)
        refine jr_iconst hg (nI 1) dX1_isWord_49 (by decide) ?_
        exact jr_zret hg rfl (by first | exact Or.inl rfl | exact Or.inr rfl | exact z01 _) dX1_isWord_50 (⟨by rw [z_wm, show (z_wl w == e - b) = true by simp [h7], hal]; rfl, rfl⟩)
      · intro j hj ih hal
        show mm_J g E mX1_isWord (ret1 (.int (nI (z_wm s b e w).toNat)) M) 15 [(0, .ref (E.1 1)), (1, .ref (E.1 (100 + w))), (2, .int (nI b)), (3, .int (nI e)), (4, .int (nI j))] [] (M)
        have hb := Wt.2 (b + j) (by omega)
        have hc := z_wc_1 w hw j hj
        refine jr_iload hg 4 rfl dX1_isWord_15 ?_
        refine jr_aload_n hg 1 rfl rfl dX1_isWord_17 ?_
        refine jr_cT0 hg lk_X1_98 hw (by decide) (by decide) (Nat.le_of_ble_eq_true rfl) dX1_isWord_18 (c_length hw) ?_
        refine jr_icmp_geN (tgt := 49) hg dX1_isWord_21 (by decide) (by omega) (by omega) (fun h => by omega) (fun h21 => ?_)
        refine jr_aload_n hg 1 rfl rfl dX1_isWord_24 ?_
        refine jr_iload hg 4 rfl dX1_isWord_25 ?_
        refine jr_cT1 hg lk_X1_103 hw (by decide) (by decide) (Nat.le_of_ble_eq_true rfl) dX1_isWord_27 (c_charAt hw hj) ?_
        refine jr_aload_n hg 0 rfl rfl dX1_isWord_30 ?_
        refine jr_iload_n hg 2 rfl rfl dX1_isWord_31 ?_
        refine jr_iload hg 4 rfl dX1_isWord_32 ?_
        refine jr_iaddN hg dX1_isWord_34 ?_
        refine jr_cV1v hg lk_X1_73 (hI 1 (by decide)) rfl rfl (by decide) (by decide) (Nat.le_of_ble_eq_true rfl) dX1_isWord_35 (c_X1_byteAt hI Rg Wt (j := b + j) (by omega)) ?_
        refine jr_icmp_eqN (tgt := 43) hg dX1_isWord_38 (by decide) (by omega) (by omega) (fun h38 => ?_) (fun h38 => ?_)
        · refine jr_iinc hg 4 rfl (nI (_ + 1)) (nI_1 _) dX1_isWord_43 (by decide) rfl ?_
          refine jr_goto (tgt := 15) hg dX1_isWord_46 (by decide) ?_
          exact jr_lv [1, 2, 3, 4, 0] rfl (ih (by rw [z_all, hal, Bool.true_and]; simp [h38]))
        · refine jr_iconst hg (nI 0) dX1_isWord_41 (by decide) ?_
          exact jr_zret hg rfl (by first | exact Or.inl rfl | exact Or.inr rfl | exact z01 _) dX1_isWord_42 (⟨by rw [z_wm, z_all_f (j := j) (by simp [h38]) _ hj, Bool.and_false]; rfl, rfl⟩)
    exact jr_lv [1, 2, 3, 4, 0] rfl (lp15 0 (by omega) rfl)
  · refine jr_iconst hg (nI 0) dX1_isWord_10 (by decide) ?_
    exact jr_zret hg rfl (by first | exact Or.inl rfl | exact Or.inr rfl | exact z01 _) dX1_isWord_11 (⟨by rw [z_wm, show (z_wl w == e - b) = false by simp [h7], Bool.false_and]; rfl, rfl⟩)

set_option maxRecDepth 100000 in
theorem c_X1_readWord {E : mm_E} (hI : mm_FX E) {M : mm_M} {s : zS} {rv : Nat → Nat} {a : Nat} {fp : Int32} (Rg : zX_g s rv a 0 fp M) (Wt : zW_t s) (ha : a ≤ s 0 4) (hrv : z_rvk rv) : mm_Cal E mX1_readWord [.ref (E.1 1)] M (fun v M' => v = some (.int (zmv (z_w s a))) ∧ zX_g s rv (z_we s a) (z_wq s rv a) (if z_wq s rv a = 0 then fp else nI a) M' ∧ mm_same [1, 9] M M') := by
  have hn := Wt.1
  refine jr_entry RX1 (by decide +kernel) (Nat.le_of_ble_eq_true rfl) (fun g hg => ?_)
  refine jr_lv (lv' := [(0, .ref (E.1 1))]) [0] rfl ?_
  refine jr_aload_n hg 0 rfl rfl dX1_readWord_0 ?_
  refine gf_X1_53 hg (hI 1 (by decide)) dX1_readWord_1 ?_
  refine jr_top (Rg.2.2.2.1) ?_
  have ct43 : ∀ M1, zX_g s rv (z_we s a) 0 fp M1 → mm_same [1, 9] M M1 → mm_J g E mX1_readWord (fun v M' => v = some (.int (zmv (z_w s a))) ∧ zX_g s rv (z_we s a) (z_wq s rv a) (if z_wq s rv a = 0 then fp else nI a) M' ∧ mm_same [1, 9] M M') 43 [(0, .ref (E.1 1)), (1, .int (nI a))] [] (M1) := by
    intro M1 hx hs
    have hen := z_we_n ha
    refine jr_iconst hg (nI 0) dX1_readWord_43 (by decide) ?_
    refine jr_istore_n hg dX1_readWord_44 rfl (by decide) rfl ?_
    have lp45 : ∀ k : Nat, k ≤ 8 → zfind (z_wm s a (z_we s a)) k = 0 → mm_J g E mX1_readWord (fun v M' => v = some (.int (zmv (z_w s a))) ∧ zX_g s rv (z_we s a) (z_wq s rv a) (if z_wq s rv a = 0 then fp else nI a) M' ∧ mm_same [1, 9] M M') 45 [(0, .ref (E.1 1)), (1, .int (nI a)), (2, .int (nI k))] [] (M1) := by
      refine jr_up (S := fun k => zfind (z_wm s a (z_we s a)) k = 0 → mm_J g E mX1_readWord (fun v M' => v = some (.int (zmv (z_w s a))) ∧ zX_g s rv (z_we s a) (z_wq s rv a) (if z_wq s rv a = 0 then fp else nI a) M' ∧ mm_same [1, 9] M M') 45 [(0, .ref (E.1 1)), (1, .int (nI a)), (2, .int (nI k))] [] (M1)) (n := 8) ?_ ?_
      · intro hzf
        show mm_J g E mX1_readWord (fun v M' => v = some (.int (zmv (z_w s a))) ∧ zX_g s rv (z_we s a) (z_wq s rv a) (if z_wq s rv a = 0 then fp else nI a) M' ∧ mm_same [1, 9] M M') 45 [(0, .ref (E.1 1)), (1, .int (nI a)), (2, .int (nI (8)))] [] (M1)
        refine jr_iload_n hg 2 rfl rfl dX1_readWord_45 ?_
        refine jr_bipush hg (nI 8) dX1_readWord_46 (by decide) ?_
        refine jr_icmp_geN (tgt := 91) hg dX1_readWord_48 (by decide) (by omega) (by omega) (fun h48 => ?_) (fun h => by omega)
        have hw0 : z_w s a = 0 := hzf
        have hq1 : z_wq s rv a = 1 := by rw [z_wq, if_pos hw0]
        refine jr_aload_n hg 0 rfl rfl dX1_readWord_91 ?_
        refine jr_iconst hg (nI 1) dX1_readWord_92 (by decide) ?_
        refine jr_iload_n hg 1 rfl rfl dX1_readWord_93 ?_
        refine jr_cV2u hg lk_X1_88 (hI 1 (by decide)) rfl rfl (by decide) (by decide) (Nat.le_of_ble_eq_true rfl) dX1_readWord_94 (c_X1_blame hI (x := 1) (y := a)) ?_
        refine jr_iconst hg (-1) dX1_readWord_97 (by decide) ?_
        exact jr_iret hg rfl dX1_readWord_98 (⟨by rw [hw0]; rfl, by rw [hq1, if_neg (by decide)]; exact hx.bl 1 a, hs.bl (by decide) 1 a⟩)
      · intro k hk ih hzf
        show mm_J g E mX1_readWord (fun v M' => v = some (.int (zmv (z_w s a))) ∧ zX_g s rv (z_we s a) (z_wq s rv a) (if z_wq s rv a = 0 then fp else nI a) M' ∧ mm_same [1, 9] M M') 45 [(0, .ref (E.1 1)), (1, .int (nI a)), (2, .int (nI k))] [] (M1)
        have hk8 : k < 8 := hk
        refine jr_iload_n hg 2 rfl rfl dX1_readWord_45 ?_
        refine jr_bipush hg (nI 8) dX1_readWord_46 (by decide) ?_
        refine jr_icmp_geN (tgt := 91) hg dX1_readWord_48 (by decide) (by omega) (by omega) (fun h => by omega) (fun h48 => ?_)
        refine jr_aload_n hg 0 rfl rfl dX1_readWord_51 ?_
        refine jr_iload_n hg 2 rfl rfl dX1_readWord_52 ?_
        refine jr_cS1v hg lk_X1_80 (by decide) (by decide) (Nat.le_of_ble_eq_true rfl) dX1_readWord_53 (c_X1_wordOf hk8) ?_
        refine jr_iload_n hg 1 rfl rfl dX1_readWord_56 ?_
        refine jr_aload_n hg 0 rfl rfl dX1_readWord_57 ?_
        refine gf_X1_53 hg (hI 1 (by decide)) dX1_readWord_58 ?_
        refine jr_top (hx.2.2.2.1) ?_
        refine jr_cV3v hg lk_X1_84 (hI 1 (by decide)) rfl rfl (by decide) (by decide) (Nat.le_of_ble_eq_true rfl) dX1_readWord_61 (c_X1_isWord hI hx Wt hk8 (z_ru_ge _ _ _) hen) ?_
        refine jr_if_eqZ (tgt := 85) hg dX1_readWord_64 (by decide) (fun h64 => ?_) (fun h64 => ?_)
        · refine jr_iinc hg 2 rfl (nI (_ + 1)) (nI_1 _) dX1_readWord_85 (by decide) rfl ?_
          refine jr_goto (tgt := 45) hg dX1_readWord_88 (by decide) ?_
          exact jr_lv [1, 2, 0] rfl (ih (by rw [zfind, if_pos hzf, h64]; rfl))
        · refine jr_aload_n hg 0 rfl rfl dX1_readWord_67 ?_
          refine gf_X1_15 hg (hI 1 (by decide)) dX1_readWord_68 ?_
          refine jr_iload_n hg 2 rfl rfl dX1_readWord_71 ?_
          refine jr_ialdN hg (n := 8) (by omega) (by decide) (hI 9 (by decide)) (ac_9 _ _) dX1_readWord_72 ?_
          refine jr_top (hx.2.2.1 k hk8) ?_
          refine jr_iconst hg (-1) dX1_readWord_73 (by decide) ?_
          have hwk : z_w s a = k + 1 := zfind_of hk8 h64 (zfind_0 hzf)
          have hrk := z_rvk_le hrv hk8
          refine jr_icmp_eq (tgt := 83) hg dX1_readWord_74 (by decide) (fun h74 => ?_) (fun h74 => ?_)
          · have hq0 : z_wq s rv a = 0 := by rw [z_wq, hwk, if_neg (by omega), Nat.add_sub_cancel, if_pos ((zmv_m1 (by omega)).mp h74)]
            refine jr_iload_n hg 2 rfl rfl dX1_readWord_83 ?_
            exact jr_iret hg rfl dX1_readWord_84 (⟨by rw [hwk, zmv_s], by rw [hq0, if_pos rfl]; exact hx, hs⟩)
          · refine jr_aload_n hg 0 rfl rfl dX1_readWord_77 ?_
            refine jr_iconst hg (nI 3) dX1_readWord_78 (by decide) ?_
            refine jr_iload_n hg 1 rfl rfl dX1_readWord_79 ?_
            refine jr_cV2u hg lk_X1_88 (hI 1 (by decide)) rfl rfl (by decide) (by decide) (Nat.le_of_ble_eq_true rfl) dX1_readWord_80 (c_X1_blame hI (x := 3) (y := a)) ?_
            have hq3 : z_wq s rv a = 3 := by rw [z_wq, hwk, if_neg (by omega), Nat.add_sub_cancel, if_neg (fun q => h74 ((zmv_m1 (by omega)).mpr q))]
            refine jr_iload_n hg 2 rfl rfl dX1_readWord_83 ?_
            exact jr_iret hg rfl dX1_readWord_84 (⟨by rw [hwk, zmv_s], by rw [hq3, if_neg (by decide)]; exact hx.bl 3 a, hs.bl (by decide) 3 a⟩)
    exact jr_lv [1, 2, 0] rfl (lp45 0 (by omega) rfl)
  refine jr_istore_n hg dX1_readWord_4 rfl (by decide) rfl ?_
  have lp5 : ∀ p : Nat, p ≤ s 0 4 → ∀ M1, zX_g s rv p 0 fp M1 → mm_same [1, 9] M M1 → z_we s p = z_we s a → mm_J g E mX1_readWord (fun v M' => v = some (.int (zmv (z_w s a))) ∧ zX_g s rv (z_we s a) (z_wq s rv a) (if z_wq s rv a = 0 then fp else nI a) M' ∧ mm_same [1, 9] M M') 5 [(0, .ref (E.1 1)), (1, .int (nI a))] [] (M1) := by
    refine jr_up (S := fun p => ∀ M1, zX_g s rv p 0 fp M1 → mm_same [1, 9] M M1 → z_we s p = z_we s a → mm_J g E mX1_readWord (fun v M' => v = some (.int (zmv (z_w s a))) ∧ zX_g s rv (z_we s a) (z_wq s rv a) (if z_wq s rv a = 0 then fp else nI a) M' ∧ mm_same [1, 9] M M') 5 [(0, .ref (E.1 1)), (1, .int (nI a))] [] (M1)) (n := s 0 4) ?_ ?_
    · intro M1 hx hs hz
      show mm_J g E mX1_readWord (fun v M' => v = some (.int (zmv (z_w s a))) ∧ zX_g s rv (z_we s a) (z_wq s rv a) (if z_wq s rv a = 0 then fp else nI a) M' ∧ mm_same [1, 9] M M') 5 [(0, .ref (E.1 1)), (1, .int (nI a))] [] (M1)
      refine jr_aload_n hg 0 rfl rfl dX1_readWord_5 ?_
      refine gf_X1_53 hg (hI 1 (by decide)) dX1_readWord_6 ?_
      refine jr_top (hx.2.2.2.1) ?_
      refine jr_aload_n hg 0 rfl rfl dX1_readWord_9 ?_
      refine gf_X1_34 hg (hI 1 (by decide)) dX1_readWord_10 ?_
      refine jr_top (hx.1) ?_
      refine jr_icmp_geN (tgt := 43) hg dX1_readWord_13 (by decide) (by omega) (by omega) (fun h13 => ?_) (fun h => by omega)
      exact jr_lv [0, 1] rfl (ct43 M1 (by rw [← hz, z_we, z_ru_e (Nat.le_refl _)]; exact hx) hs)
    · intro p hp ih M1 hx hs hz
      show mm_J g E mX1_readWord (fun v M' => v = some (.int (zmv (z_w s a))) ∧ zX_g s rv (z_we s a) (z_wq s rv a) (if z_wq s rv a = 0 then fp else nI a) M' ∧ mm_same [1, 9] M M') 5 [(0, .ref (E.1 1)), (1, .int (nI a))] [] (M1)
      have hb := Wt.2 p hp
      refine jr_aload_n hg 0 rfl rfl dX1_readWord_5 ?_
      refine gf_X1_53 hg (hI 1 (by decide)) dX1_readWord_6 ?_
      refine jr_top (hx.2.2.2.1) ?_
      refine jr_aload_n hg 0 rfl rfl dX1_readWord_9 ?_
      refine gf_X1_34 hg (hI 1 (by decide)) dX1_readWord_10 ?_
      refine jr_top (hx.1) ?_
      refine jr_icmp_geN (tgt := 43) hg dX1_readWord_13 (by decide) (by omega) (by omega) (fun h => by omega) (fun h13 => ?_)
      refine jr_aload_n hg 0 rfl rfl dX1_readWord_16 ?_
      refine jr_aload_n hg 0 rfl rfl dX1_readWord_17 ?_
      refine gf_X1_53 hg (hI 1 (by decide)) dX1_readWord_18 ?_
      refine jr_top (hx.2.2.2.1) ?_
      refine jr_cV1v hg lk_X1_73 (hI 1 (by decide)) rfl rfl (by decide) (by decide) (Nat.le_of_ble_eq_true rfl) dX1_readWord_21 (c_X1_byteAt hI hx Wt hp) ?_
      refine jr_cS1v hg lk_X1_76 (by decide) (by decide) (Nat.le_of_ble_eq_true rfl) dX1_readWord_24 (c_X1_isLetter hI hb) ?_
      refine jr_if_eqZ (tgt := 43) hg dX1_readWord_27 (by decide) (fun h27 => ?_) (fun h27 => ?_)
      · exact jr_lv [0, 1] rfl (ct43 M1 (by rw [← hz, z_we, z_ru_f (P := z_le s) h27]; exact hx) hs)
      · refine jr_aload_n hg 0 rfl rfl dX1_readWord_30 ?_
        refine jr_dup hg dX1_readWord_31 rfl ?_
        refine gf_X1_53 hg (hI 1 (by decide)) dX1_readWord_32 ?_
        refine jr_top (hx.2.2.2.1) ?_
        refine jr_iconst hg (nI 1) dX1_readWord_35 (by decide) ?_
        refine jr_iaddN hg dX1_readWord_36 ?_
        refine pf_X1_53 hg (hI 1 (by decide)) dX1_readWord_37 ?_
        refine jr_goto (tgt := 5) hg dX1_readWord_40 (by decide) ?_
        exact jr_lv [0, 1] rfl (ih _ (hx.pl (p + 1)) (hs.si (by decide)) ((z_ru_t (P := z_le s) hp h27).symm.trans hz))
  exact jr_lv [1, 0] rfl (lp5 a ha M Rg mm_same.rf rfl)

set_option maxRecDepth 100000 in
theorem c_X1_readNumber {E : mm_E} (hI : mm_FX E) {M : mm_M} {s : zS} {rv : Nat → Nat} {a k : Nat} {fp : Int32} (Rg : zX_g s rv a 0 fp M) (Wt : zW_t s) (ha : a ≤ s 0 4) (hk : k < 8) : mm_Cal E mX1_readNumber [.ref (E.1 1), .int (nI k)] M (fun v M' => v = some (.int (nI (z_vv s a))) ∧ zX_g s rv (z_ne s a) (z_nf s k a) (if z_nf s k a = 0 then fp else nI a) M' ∧ mm_same [1, 9] M M') := by
  have hn := Wt.1
  refine jr_entry RX1 (by decide +kernel) (Nat.le_of_ble_eq_true rfl) (fun g hg => ?_)
  refine jr_lv (lv' := [(0, .ref (E.1 1)), (1, .int (nI k))]) [0, 1] rfl ?_
  refine jr_aload_n hg 0 rfl rfl dX1_readNumber_0 ?_
  refine gf_X1_53 hg (hI 1 (by decide)) dX1_readNumber_1 ?_
  refine jr_top (Rg.2.2.2.1) ?_
  have ct72 : ∀ (M1 : mm_M) (d : Nat), z_ne s a = a + d → zX_g s rv (z_ne s a) 0 fp M1 → mm_same [1, 9] M M1 → mm_J g E mX1_readNumber (fun v M' => v = some (.int (nI (z_vv s a))) ∧ zX_g s rv (z_ne s a) (z_nf s k a) (if z_nf s k a = 0 then fp else nI a) M' ∧ mm_same [1, 9] M M') 72 [(0, .ref (E.1 1)), (1, .int (nI k)), (2, .int (nI a)), (3, .int (nI (z_va s a d)))] [] (M1) := by
    intro M1 d he hx hs
    have hen := z_ne_n ha
    have hvv : z_vv s a = z_va s a d := by rw [z_vv, he, Nat.add_sub_cancel_left]
    have hvl := z_vv_le s a
    have hed : z_ne s a - a = d := by omega
    refine jr_aload_n hg 0 rfl rfl dX1_readNumber_72 ?_
    refine gf_X1_53 hg (hI 1 (by decide)) dX1_readNumber_73 ?_
    refine jr_top (hx.2.2.2.1) ?_
    refine jr_iload_n hg 2 rfl rfl dX1_readNumber_76 ?_
    refine jr_icmp_neN (tgt := 89) hg dX1_readNumber_77 (by decide) (by omega) (by omega) (fun h77 => ?_) (fun h77 => ?_)
    · refine jr_aload_n hg 0 rfl rfl dX1_readNumber_89 ?_
      refine gf_X1_53 hg (hI 1 (by decide)) dX1_readNumber_90 ?_
      refine jr_top (hx.2.2.2.1) ?_
      refine jr_iload_n hg 2 rfl rfl dX1_readNumber_93 ?_
      refine jr_isubN hg dX1_readNumber_94 (by omega) ?_
      refine jr_iconst hg (nI 3) dX1_readNumber_95 (by decide) ?_
      refine jr_icmp_gtN (tgt := 107) hg dX1_readNumber_96 (by decide) (by omega) (by omega) (fun h96 => ?_) (fun h96 => ?_)
      · refine jr_aload_n hg 0 rfl rfl dX1_readNumber_107 ?_
        refine jr_iconst hg (nI 2) dX1_readNumber_108 (by decide) ?_
        refine jr_iload_n hg 2 rfl rfl dX1_readNumber_109 ?_
        refine jr_cV2u hg lk_X1_88 (hI 1 (by decide)) rfl rfl (by decide) (by decide) (Nat.le_of_ble_eq_true rfl) dX1_readNumber_110 (c_X1_blame hI (x := 2) (y := a)) ?_
        refine jr_iload_n hg 3 rfl rfl dX1_readNumber_113 ?_
        exact jr_iret hg rfl dX1_readNumber_114 (⟨by rw [hvv], by rw [show z_nf s k a = 2 by rw [z_nf, if_neg (show ¬ z_ne s a = a from h77), if_neg (by omega)], if_neg (by decide)]; exact hx.bl 2 a, hs.bl (by decide) 2 a⟩)
      · refine jr_iload_n hg 1 rfl rfl dX1_readNumber_99 ?_
        refine jr_iload_n hg 3 rfl rfl dX1_readNumber_100 ?_
        refine jr_cS2v hg lk_X1_94 (by decide) (by decide) (Nat.le_of_ble_eq_true rfl) dX1_readNumber_101 (c_X1_isInBounds hI hk (by omega)) ?_
        refine jr_if_neZ (tgt := 113) hg dX1_readNumber_104 (by decide) (fun h104 => ?_) (fun h104 => ?_)
        · refine jr_iload_n hg 3 rfl rfl dX1_readNumber_113 ?_
          exact jr_iret hg rfl dX1_readNumber_114 (⟨by rw [hvv], by rw [show z_nf s k a = 0 by rw [z_nf, if_neg (show ¬ z_ne s a = a from h77), if_pos ⟨by omega, by rw [hvv]; exact of_decide_eq_true h104⟩], if_pos rfl]; exact hx, hs⟩)
        · refine jr_aload_n hg 0 rfl rfl dX1_readNumber_107 ?_
          refine jr_iconst hg (nI 2) dX1_readNumber_108 (by decide) ?_
          refine jr_iload_n hg 2 rfl rfl dX1_readNumber_109 ?_
          refine jr_cV2u hg lk_X1_88 (hI 1 (by decide)) rfl rfl (by decide) (by decide) (Nat.le_of_ble_eq_true rfl) dX1_readNumber_110 (c_X1_blame hI (x := 2) (y := a)) ?_
          refine jr_iload_n hg 3 rfl rfl dX1_readNumber_113 ?_
          exact jr_iret hg rfl dX1_readNumber_114 (⟨by rw [hvv], by rw [show z_nf s k a = 2 by rw [z_nf, if_neg (show ¬ z_ne s a = a from h77), if_neg (fun q => of_decide_eq_false h104 (by rw [← hvv]; exact q.2))], if_neg (by decide)]; exact hx.bl 2 a, hs.bl (by decide) 2 a⟩)
    · refine jr_aload_n hg 0 rfl rfl dX1_readNumber_80 ?_
      refine jr_iconst hg (nI 1) dX1_readNumber_81 (by decide) ?_
      refine jr_iload_n hg 2 rfl rfl dX1_readNumber_82 ?_
      refine jr_cV2u hg lk_X1_88 (hI 1 (by decide)) rfl rfl (by decide) (by decide) (Nat.le_of_ble_eq_true rfl) dX1_readNumber_83 (c_X1_blame hI (x := 1) (y := a)) ?_
      refine jr_goto (tgt := 113) hg dX1_readNumber_86 (by decide) ?_
      refine jr_iload_n hg 3 rfl rfl dX1_readNumber_113 ?_
      exact jr_iret hg rfl dX1_readNumber_114 (⟨by rw [hvv], by rw [show z_nf s k a = 1 by rw [z_nf, if_pos h77], if_neg (by decide)]; exact hx.bl 1 a, hs.bl (by decide) 1 a⟩)
  refine jr_istore_n hg dX1_readNumber_4 rfl (by decide) rfl ?_
  refine jr_iconst hg (nI 0) dX1_readNumber_5 (by decide) ?_
  refine jr_istore_n hg dX1_readNumber_6 rfl (by decide) rfl ?_
  have lp7 : ∀ d : Nat, d ≤ (s 0 4 - a) → ∀ M1, zX_g s rv (a + d) 0 fp M1 → mm_same [1, 9] M M1 → z_ne s (a + d) = z_ne s a → mm_J g E mX1_readNumber (fun v M' => v = some (.int (nI (z_vv s a))) ∧ zX_g s rv (z_ne s a) (z_nf s k a) (if z_nf s k a = 0 then fp else nI a) M' ∧ mm_same [1, 9] M M') 7 [(0, .ref (E.1 1)), (1, .int (nI k)), (2, .int (nI a)), (3, .int (nI ((z_va s a d))))] [] (M1) := by
    refine jr_up (S := fun d => ∀ M1, zX_g s rv (a + d) 0 fp M1 → mm_same [1, 9] M M1 → z_ne s (a + d) = z_ne s a → mm_J g E mX1_readNumber (fun v M' => v = some (.int (nI (z_vv s a))) ∧ zX_g s rv (z_ne s a) (z_nf s k a) (if z_nf s k a = 0 then fp else nI a) M' ∧ mm_same [1, 9] M M') 7 [(0, .ref (E.1 1)), (1, .int (nI k)), (2, .int (nI a)), (3, .int (nI ((z_va s a d))))] [] (M1)) (n := (s 0 4 - a)) ?_ ?_
    · intro M1 hx hs hz
      show mm_J g E mX1_readNumber (fun v M' => v = some (.int (nI (z_vv s a))) ∧ zX_g s rv (z_ne s a) (z_nf s k a) (if z_nf s k a = 0 then fp else nI a) M' ∧ mm_same [1, 9] M M') 7 [(0, .ref (E.1 1)), (1, .int (nI k)), (2, .int (nI a)), (3, .int (nI ((z_va s a ((s 0 4 - a))))))] [] (M1)
      refine jr_aload_n hg 0 rfl rfl dX1_readNumber_7 ?_
      refine gf_X1_53 hg (hI 1 (by decide)) dX1_readNumber_8 ?_
      refine jr_top (hx.2.2.2.1) ?_
      refine jr_aload_n hg 0 rfl rfl dX1_readNumber_11 ?_
      refine gf_X1_34 hg (hI 1 (by decide)) dX1_readNumber_12 ?_
      refine jr_top (hx.1) ?_
      refine jr_icmp_geN (tgt := 72) hg dX1_readNumber_15 (by decide) (by omega) (by omega) (fun h15 => ?_) (fun h => by omega)
      have hzd : z_ne s a = a + (s 0 4 - a) := by rw [← hz, z_ne, z_ru_e (by omega)]
      exact jr_lv [0, 1, 2, 3] rfl (ct72 M1 (s 0 4 - a) hzd (by rw [hzd]; exact hx) hs)
    · intro d hd ih M1 hx hs hz
      show mm_J g E mX1_readNumber (fun v M' => v = some (.int (nI (z_vv s a))) ∧ zX_g s rv (z_ne s a) (z_nf s k a) (if z_nf s k a = 0 then fp else nI a) M' ∧ mm_same [1, 9] M M') 7 [(0, .ref (E.1 1)), (1, .int (nI k)), (2, .int (nI a)), (3, .int (nI ((z_va s a d))))] [] (M1)
      have hb := Wt.2 (a + d) (by omega)
      refine jr_aload_n hg 0 rfl rfl dX1_readNumber_7 ?_
      refine gf_X1_53 hg (hI 1 (by decide)) dX1_readNumber_8 ?_
      refine jr_top (hx.2.2.2.1) ?_
      refine jr_aload_n hg 0 rfl rfl dX1_readNumber_11 ?_
      refine gf_X1_34 hg (hI 1 (by decide)) dX1_readNumber_12 ?_
      refine jr_top (hx.1) ?_
      refine jr_icmp_geN (tgt := 72) hg dX1_readNumber_15 (by decide) (by omega) (by omega) (fun h => by omega) (fun h15 => ?_)
      refine jr_aload_n hg 0 rfl rfl dX1_readNumber_18 ?_
      refine jr_aload_n hg 0 rfl rfl dX1_readNumber_19 ?_
      refine gf_X1_53 hg (hI 1 (by decide)) dX1_readNumber_20 ?_
      refine jr_top (hx.2.2.2.1) ?_
      refine jr_cV1v hg lk_X1_73 (hI 1 (by decide)) rfl rfl (by decide) (by decide) (Nat.le_of_ble_eq_true rfl) dX1_readNumber_23 (c_X1_byteAt hI hx Wt (j := a + d) (by omega)) ?_
      refine jr_cS1v hg lk_X1_91 (by decide) (by decide) (Nat.le_of_ble_eq_true rfl) dX1_readNumber_26 (c_X1_isFigure hI hb) ?_
      refine jr_if_eqZ (tgt := 72) hg dX1_readNumber_29 (by decide) (fun h29 => ?_) (fun h29 => ?_)
      · have hzd : z_ne s a = a + d := by rw [← hz, z_ne, z_ru_f (P := z_fg s) h29]
        exact jr_lv [0, 1, 2, 3] rfl (ct72 M1 d hzd (by rw [hzd]; exact hx) hs)
      · have hfg := of_decide_eq_true (p := 48 ≤ s 11 (a + d) ∧ s 11 (a + d) ≤ 57) h29
        refine jr_aload_n hg 0 rfl rfl dX1_readNumber_32 ?_
        refine gf_X1_53 hg (hI 1 (by decide)) dX1_readNumber_33 ?_
        refine jr_top (hx.2.2.2.1) ?_
        refine jr_iload_n hg 2 rfl rfl dX1_readNumber_36 ?_
        refine jr_isubN hg dX1_readNumber_37 (by omega) ?_
        refine jr_iconst hg (nI 3) dX1_readNumber_38 (by decide) ?_
        refine jr_icmp_geN (tgt := 59) hg dX1_readNumber_39 (by decide) (by omega) (by omega) (fun h39 => ?_) (fun h39 => ?_)
        · refine jr_aload_n hg 0 rfl rfl dX1_readNumber_59 ?_
          refine jr_dup hg dX1_readNumber_60 rfl ?_
          refine gf_X1_53 hg (hI 1 (by decide)) dX1_readNumber_61 ?_
          refine jr_top (hx.2.2.2.1) ?_
          refine jr_iconst hg (nI 1) dX1_readNumber_64 (by decide) ?_
          refine jr_iaddN hg dX1_readNumber_65 ?_
          refine pf_X1_53 hg (hI 1 (by decide)) dX1_readNumber_66 ?_
          refine jr_goto (tgt := 7) hg dX1_readNumber_69 (by decide) ?_
          have e : z_va s a (d + 1) = z_va s a d := by rw [z_va, if_neg (by omega)]
          rw [e] at ih
          exact jr_lv [0, 1, 2, 3] rfl (ih _ (hx.pl (a + d + 1)) (hs.si (by decide)) ((z_ru_t (P := z_fg s) (show a + d < s 0 4 by omega) h29).symm.trans hz))
        · refine jr_iload_n hg 3 rfl rfl dX1_readNumber_42 ?_
          refine jr_bipush hg (nI 10) dX1_readNumber_43 (by decide) ?_
          refine jr_imulN hg dX1_readNumber_45 ?_
          refine jr_aload_n hg 0 rfl rfl dX1_readNumber_46 ?_
          refine jr_aload_n hg 0 rfl rfl dX1_readNumber_47 ?_
          refine gf_X1_53 hg (hI 1 (by decide)) dX1_readNumber_48 ?_
          refine jr_top (hx.2.2.2.1) ?_
          refine jr_cV1v hg lk_X1_73 (hI 1 (by decide)) rfl rfl (by decide) (by decide) (Nat.le_of_ble_eq_true rfl) dX1_readNumber_51 (c_X1_byteAt hI hx Wt (j := a + d) (by omega)) ?_
          refine jr_iaddN hg dX1_readNumber_54 ?_
          refine jr_bipush hg (nI 48) dX1_readNumber_55 (by decide) ?_
          refine jr_isubN hg dX1_readNumber_57 (by omega) ?_
          refine jr_istore_n hg dX1_readNumber_58 rfl (by decide) rfl ?_
          refine jr_aload_n hg 1 rfl rfl dX1_readNumber_59 ?_
          refine jr_dup hg dX1_readNumber_60 rfl ?_
          refine gf_X1_53 hg (hI 1 (by decide)) dX1_readNumber_61 ?_
          refine jr_top (hx.2.2.2.1) ?_
          refine jr_iconst hg (nI 1) dX1_readNumber_64 (by decide) ?_
          refine jr_iaddN hg dX1_readNumber_65 ?_
          refine pf_X1_53 hg (hI 1 (by decide)) dX1_readNumber_66 ?_
          refine jr_goto (tgt := 7) hg dX1_readNumber_69 (by decide) ?_
          have e : z_va s a (d + 1) = z_va s a d * 10 + s 11 (a + d) - 48 := by rw [z_va, if_pos (by omega)]
          rw [e] at ih
          exact jr_lv [1, 2, 3, 0] rfl (ih _ (hx.pl (a + d + 1)) (hs.si (by decide)) ((z_ru_t (P := z_fg s) (show a + d < s 0 4 by omega) h29).symm.trans hz))
  exact jr_lv [2, 3, 1, 0] rfl (lp7 0 (by omega) M Rg mm_same.rf rfl)

set_option maxRecDepth 100000 in
theorem c_readEnd_out {E : mm_E} (hI : mm_FX E) {M : mm_M} {s : zS} {rv : Nat → Nat} {a k v : Nat} {fp : Int32} (Rg : zX_g s rv a 0 fp M) (Wt : zW_t s) (hk : k < 8) (ha : s 0 4 ≤ a) (ha2 : a < 2 ^ 31) : mm_Cal E mX1_readEnd [.ref (E.1 1), .int (nI k), .int (nI v)] M (fun q M' => q = none ∧ (if a < s 0 4 ∧ s 11 a = 59 then zX_g s (zup rv k (v + 1)) (a + 1) 0 fp M' else zX_g s rv a 1 (nI a) M') ∧ mm_same [1, 9] M M') := by
  refine jr_entry RX1 (by decide +kernel) (Nat.le_of_ble_eq_true rfl) (fun g hg => ?_)
  refine jr_lv (lv' := [(0, .ref (E.1 1)), (1, .int (nI k)), (2, .int (nI v))]) [0, 1, 2] rfl ?_
  refine jr_aload_n hg 0 rfl rfl dX1_readEnd_0 ?_
  refine jr_aload_n hg 0 rfl rfl dX1_readEnd_1 ?_
  refine gf_X1_53 hg (hI 1 (by decide)) dX1_readEnd_2 ?_
  refine jr_top (Rg.2.2.2.1) ?_
  refine jr_cV1v hg lk_X1_73 (hI 1 (by decide)) rfl rfl (by decide) (by decide) (Nat.le_of_ble_eq_true rfl) dX1_readEnd_5 (c_byteAt_out hI Rg Wt ha ha2) ?_
  refine jr_bipush hg (nI 59) dX1_readEnd_8 (by decide) ?_
  refine jr_icmp_eq (tgt := 25) hg dX1_readEnd_10 (by decide) (fun h => absurd h (by decide)) (fun h10 => ?_)
  refine jr_aload_n hg 0 rfl rfl dX1_readEnd_13 ?_
  refine jr_iconst hg (nI 1) dX1_readEnd_14 (by decide) ?_
  refine jr_aload_n hg 0 rfl rfl dX1_readEnd_15 ?_
  refine gf_X1_53 hg (hI 1 (by decide)) dX1_readEnd_16 ?_
  refine jr_top (Rg.2.2.2.1) ?_
  refine jr_cV2u hg lk_X1_88 (hI 1 (by decide)) rfl rfl (by decide) (by decide) (Nat.le_of_ble_eq_true rfl) dX1_readEnd_19 (c_X1_blame hI (x := 1) (y := a)) ?_
  refine jr_goto (tgt := 55) hg dX1_readEnd_22 (by decide) ?_
  exact jr_vret hg rfl dX1_readEnd_55 (⟨rfl, by rw [if_neg (by omega)]; exact Rg.bl 1 a, mm_same.rf.bl (by decide) 1 a⟩)

set_option maxRecDepth 100000 in
theorem c_readEnd_in {E : mm_E} (hI : mm_FX E) {M : mm_M} {s : zS} {rv : Nat → Nat} {a k v : Nat} {fp : Int32} (Rg : zX_g s rv a 0 fp M) (Wt : zW_t s) (hk : k < 8) (ha : a < s 0 4) : mm_Cal E mX1_readEnd [.ref (E.1 1), .int (nI k), .int (nI v)] M (fun q M' => q = none ∧ (if a < s 0 4 ∧ s 11 a = 59 then zX_g s (zup rv k (v + 1)) (a + 1) 0 fp M' else zX_g s rv a 1 (nI a) M') ∧ mm_same [1, 9] M M') := by
  have hn := Wt.1
  have hb := Wt.2 a ha
  refine jr_entry RX1 (by decide +kernel) (Nat.le_of_ble_eq_true rfl) (fun g hg => ?_)
  refine jr_lv (lv' := [(0, .ref (E.1 1)), (1, .int (nI k)), (2, .int (nI v))]) [0, 1, 2] rfl ?_
  refine jr_aload_n hg 0 rfl rfl dX1_readEnd_0 ?_
  refine jr_aload_n hg 0 rfl rfl dX1_readEnd_1 ?_
  refine gf_X1_53 hg (hI 1 (by decide)) dX1_readEnd_2 ?_
  refine jr_top (Rg.2.2.2.1) ?_
  refine jr_cV1v hg lk_X1_73 (hI 1 (by decide)) rfl rfl (by decide) (by decide) (Nat.le_of_ble_eq_true rfl) dX1_readEnd_5 (c_X1_byteAt hI Rg Wt ha) ?_
  refine jr_bipush hg (nI 59) dX1_readEnd_8 (by decide) ?_
  refine jr_icmp_eqN (tgt := 25) hg dX1_readEnd_10 (by decide) (by omega) (by omega) (fun h10 => ?_) (fun h10 => ?_)
  · refine jr_iload_n hg 1 rfl rfl dX1_readEnd_25 ?_
    refine jr_if_ltN hg dX1_readEnd_26 (tgt := 55) (by decide) (by omega) ?_
    refine jr_iload_n hg 1 rfl rfl dX1_readEnd_29 ?_
    refine jr_aload_n hg 0 rfl rfl dX1_readEnd_30 ?_
    refine gf_X1_15 hg (hI 1 (by decide)) dX1_readEnd_31 ?_
    refine jr_alen hg (t0 := 0) (hI 9 (by decide)) (ac_9 _ _) rfl rfl dX1_readEnd_34 ?_
    refine jr_icmp_geN (tgt := 55) hg dX1_readEnd_35 (by decide) (by omega) (by omega) (fun h => by omega) (fun h35 => ?_)
    refine jr_aload_n hg 0 rfl rfl dX1_readEnd_38 ?_
    refine jr_dup hg dX1_readEnd_39 rfl ?_
    refine gf_X1_53 hg (hI 1 (by decide)) dX1_readEnd_40 ?_
    refine jr_top (Rg.2.2.2.1) ?_
    refine jr_iconst hg (nI 1) dX1_readEnd_43 (by decide) ?_
    refine jr_iaddN hg dX1_readEnd_44 ?_
    refine pf_X1_53 hg (hI 1 (by decide)) dX1_readEnd_45 ?_
    refine jr_aload_n hg 0 rfl rfl dX1_readEnd_48 ?_
    refine gf_X1_15 hg (hI 1 (by decide)) dX1_readEnd_49 ?_
    refine jr_iload_n hg 1 rfl rfl dX1_readEnd_52 ?_
    refine jr_iload_n hg 2 rfl rfl dX1_readEnd_53 ?_
    refine jr_iastN hg (n := 8) (by omega) (by decide) (hI 9 (by decide)) (ac_9) dX1_readEnd_54 ?_
    exact jr_vret hg rfl dX1_readEnd_55 (⟨rfl, by rw [if_pos ⟨ha, h10⟩]; exact (Rg.pl (a + 1)).tl k v, (mm_same.rf.si (by decide)).si (by decide)⟩)
  · refine jr_aload_n hg 0 rfl rfl dX1_readEnd_13 ?_
    refine jr_iconst hg (nI 1) dX1_readEnd_14 (by decide) ?_
    refine jr_aload_n hg 0 rfl rfl dX1_readEnd_15 ?_
    refine gf_X1_53 hg (hI 1 (by decide)) dX1_readEnd_16 ?_
    refine jr_top (Rg.2.2.2.1) ?_
    refine jr_cV2u hg lk_X1_88 (hI 1 (by decide)) rfl rfl (by decide) (by decide) (Nat.le_of_ble_eq_true rfl) dX1_readEnd_19 (c_X1_blame hI (x := 1) (y := a)) ?_
    refine jr_goto (tgt := 55) hg dX1_readEnd_22 (by decide) ?_
    exact jr_vret hg rfl dX1_readEnd_55 (⟨rfl, by rw [if_neg (fun q => h10 q.2)]; exact Rg.bl 1 a, mm_same.rf.bl (by decide) 1 a⟩)

theorem c_X1_readEnd {E : mm_E} (hI : mm_FX E) {M : mm_M} {s : zS} {rv : Nat → Nat} {a k v : Nat} {fp : Int32} (Rg : zX_g s rv a 0 fp M) (Wt : zW_t s) (hk : k < 8) (ha : a ≤ s 0 4) : mm_Cal E mX1_readEnd [.ref (E.1 1), .int (nI k), .int (nI v)] M (fun q M' => q = none ∧ (if a < s 0 4 ∧ s 11 a = 59 then zX_g s (zup rv k (v + 1)) (a + 1) 0 fp M' else zX_g s rv a 1 (nI a) M') ∧ mm_same [1, 9] M M') := by
  have hn := Wt.1
  rcases Nat.lt_or_ge a (s 0 4) with q | q
  · exact c_readEnd_in hI Rg Wt hk q
  · exact c_readEnd_out hI Rg Wt hk q (by omega)

theorem z_wq_3 (s : zS) (rv : Nat → Nat) (a : Nat) : z_wq s rv a ≤ 3 := by
  rw [z_wq]
  split
  · omega
  · split <;> omega
theorem z_nf_2 (s : zS) (k b : Nat) : z_nf s k b ≤ 2 := by
  rw [z_nf]
  split
  · omega
  · split <;> omega
theorem z_cf_3 (s : zS) (rv : Nat → Nat) (a : Nat) : (z_cf s rv a).1 ≤ 3 := by
  have h1 := z_wq_3 s rv a
  have h2 := z_nf_2 s (z_w s a - 1) (z_sp s (z_we s a))
  rw [z_cf]
  split
  · split
    · split
      · exact Nat.zero_le _
      · exact (by decide : 1 ≤ 3)
    · exact Nat.le_trans h2 (by decide)
  · exact h1

theorem z_cf_w {s : zS} {rv : Nat → Nat} {a : Nat} (h : z_wq s rv a ≠ 0) : z_cf s rv a = (z_wq s rv a, a) := by rw [z_cf, if_neg h]
theorem z_cf_u {s : zS} {rv : Nat → Nat} {a w : Nat} (h : z_wq s rv a = 0) (hw : z_w s a = w + 1) (h2 : z_nf s w (z_sp s (z_we s a)) ≠ 0) : z_cf s rv a = (z_nf s w (z_sp s (z_we s a)), z_sp s (z_we s a)) := by rw [z_cf, if_pos h, hw, Nat.add_sub_cancel, if_neg h2]
theorem z_cf_a {s : zS} {rv : Nat → Nat} {a w : Nat} (h : z_wq s rv a = 0) (hw : z_w s a = w + 1) (h2 : z_nf s w (z_sp s (z_we s a)) = 0) (q : z_sp s (z_ne s (z_sp s (z_we s a))) < s 0 4 ∧ s 11 (z_sp s (z_ne s (z_sp s (z_we s a)))) = 59) : z_cf s rv a = (0, z_sp s (z_ne s (z_sp s (z_we s a))) + 1) := by rw [z_cf, if_pos h, hw, Nat.add_sub_cancel, if_pos h2, if_pos q]
theorem z_cf_b {s : zS} {rv : Nat → Nat} {a w : Nat} (h : z_wq s rv a = 0) (hw : z_w s a = w + 1) (h2 : z_nf s w (z_sp s (z_we s a)) = 0) (q : ¬ (z_sp s (z_ne s (z_sp s (z_we s a))) < s 0 4 ∧ s 11 (z_sp s (z_ne s (z_sp s (z_we s a)))) = 59)) : z_cf s rv a = (1, z_sp s (z_ne s (z_sp s (z_we s a)))) := by rw [z_cf, if_pos h, hw, Nat.add_sub_cancel, if_pos h2, if_neg q]
theorem zc_fin1 {s : zS} {rv rv1 : Nat → Nat} {a d : Nat} {fp : Int32} {M : mm_M} (e : z_cf s rv a = (0, d)) (ev : z_cv s rv a = rv1) (x : zX_g s rv1 d 0 fp M) : if (z_cf s rv a).1 = 0 then zX_g s (z_cv s rv a) (z_cf s rv a).2 0 fp M else ∃ rv1 a1, a1 ≤ s 0 4 ∧ zX_g s rv1 a1 (z_cf s rv a).1 (nI (z_cf s rv a).2) M := by
  rw [e, ev]
  show if (0 : Nat) = 0 then _ else _
  rw [if_pos rfl]; exact x
theorem zc_fin2 {s : zS} {rv rv1 : Nat → Nat} {a a1 f d : Nat} {fp : Int32} {M : mm_M} (e : z_cf s rv a = (f, d)) (hf : f ≠ 0) (h1 : a1 ≤ s 0 4) (x : zX_g s rv1 a1 f (nI d) M) : if (z_cf s rv a).1 = 0 then zX_g s (z_cv s rv a) (z_cf s rv a).2 0 fp M else ∃ rv1 a1, a1 ≤ s 0 4 ∧ zX_g s rv1 a1 (z_cf s rv a).1 (nI (z_cf s rv a).2) M := by
  rw [e]
  show if f = 0 then _ else _
  rw [if_neg hf]
  exact ⟨rv1, a1, h1, x⟩

set_option maxRecDepth 100000 in
set_option maxHeartbeats 8000000 in
theorem c_X1_readClause {E : mm_E} (hI : mm_FX E) {M : mm_M} {s : zS} {rv : Nat → Nat} {a : Nat} {fp : Int32} (Rg : zX_g s rv a 0 fp M) (Wt : zW_t s) (ha : a ≤ s 0 4) (hrv : z_rvk rv) : mm_Cal E mX1_readClause [.ref (E.1 1)] M (fun q M' => q = none ∧ (if (z_cf s rv a).1 = 0 then zX_g s (z_cv s rv a) (z_cf s rv a).2 0 fp M' else ∃ rv1 a1, a1 ≤ s 0 4 ∧ zX_g s rv1 a1 (z_cf s rv a).1 (nI (z_cf s rv a).2) M') ∧ mm_same [1, 9] M M') := by
  have hn := Wt.1
  have hwe := z_we_n ha
  have hb : (z_sp s (z_we s a)) ≤ s 0 4 := z_sp_n hwe
  refine jr_entry RX1 (by decide +kernel) (Nat.le_of_ble_eq_true rfl) (fun g hg => ?_)
  refine jr_lv (lv' := [(0, .ref (E.1 1))]) [0] rfl ?_
  refine jr_aload_n hg 0 rfl rfl dX1_readClause_0 ?_
  refine jr_cV0p hg lk_X1_62 (hI 1 (by decide)) rfl rfl (by decide) (by decide) (Nat.le_of_ble_eq_true rfl) dX1_readClause_1 (c_X1_readWord hI Rg Wt ha hrv) (fun r M' h => ?_)
  obtain ⟨rfl, x1, f1⟩ := h
  refine jr_st (show _ = [.int (zmv (z_w s a))] from rfl) ?_
  refine jr_istore_n hg dX1_readClause_4 rfl (by decide) rfl ?_
  refine jr_aload_n hg 1 rfl rfl dX1_readClause_5 ?_
  refine gf_X1_42 hg (hI 1 (by decide)) dX1_readClause_6 ?_
  refine jr_top (x1.2.2.2.2.1) ?_
  have hq9 := z_wq_3 s rv a
  refine jr_if_neN (tgt := 39) hg dX1_readClause_9 (by decide) (by omega) (fun h9 => ?_) (fun h9 => ?_)
  · rw [if_neg (show ¬ z_wq s rv a = 0 by omega)] at x1
    exact jr_vret hg rfl dX1_readClause_39 (⟨rfl, zc_fin2 (z_cf_w (by omega)) (by omega) (z_we_n ha) x1, f1⟩)
  · have hw0 := (z_wq_0 h9).1
    obtain ⟨w, hw⟩ : ∃ w, z_w s a = w + 1 := ⟨z_w s a - 1, by omega⟩
    have hw8 : w < 8 := by have := z_w_le s a; omega
    rw [h9, if_pos rfl] at x1
    refine jr_lv (lv' := [(0, .ref (E.1 1)), (1, .int (nI w))]) [1, 0] (by rw [hw, zmv_s]; rfl) ?_
    refine jr_aload_n hg 0 rfl rfl dX1_readClause_12 ?_
    refine jr_cV0p hg lk_X1_56 (hI 1 (by decide)) rfl rfl (by decide) (by decide) (Nat.le_of_ble_eq_true rfl) dX1_readClause_13 (c_X1_skipBlanks hI x1 Wt hwe) (fun r M' h => ?_)
    obtain ⟨rfl, x2, f2⟩ := h
    refine jr_st (show _ = [] from rfl) ?_
    refine jr_aload_n hg 0 rfl rfl dX1_readClause_16 ?_
    refine jr_iload_n hg 1 rfl rfl dX1_readClause_17 ?_
    refine jr_cV1p hg lk_X1_65 (hI 1 (by decide)) rfl rfl (by decide) (by decide) (Nat.le_of_ble_eq_true rfl) dX1_readClause_18 (c_X1_readNumber hI x2 Wt hb hw8) (fun r M' h => ?_)
    obtain ⟨rfl, x3, f3⟩ := h
    refine jr_st (show _ = [.int (nI (z_vv s (z_sp s (z_we s a))))] from rfl) ?_
    refine jr_istore_n hg dX1_readClause_21 rfl (by decide) rfl ?_
    refine jr_aload_n hg 1 rfl rfl dX1_readClause_22 ?_
    refine jr_cV0p hg lk_X1_56 (hI 1 (by decide)) rfl rfl (by decide) (by decide) (Nat.le_of_ble_eq_true rfl) dX1_readClause_23 (c_X1_skipBlanks hI x3 Wt (z_ne_n hb)) (fun r M' h => ?_)
    obtain ⟨rfl, x4, f4⟩ := h
    refine jr_st (show _ = [] from rfl) ?_
    refine jr_aload_n hg 1 rfl rfl dX1_readClause_26 ?_
    refine gf_X1_42 hg (hI 1 (by decide)) dX1_readClause_27 ?_
    refine jr_top (x4.2.2.2.2.1) ?_
    have hq30 := z_nf_2 s w (z_sp s (z_we s a))
    refine jr_if_neN (tgt := 39) hg dX1_readClause_30 (by decide) (by omega) (fun h30 => ?_) (fun h30 => ?_)
    · rw [if_neg (show ¬ z_nf s w (z_sp s (z_we s a)) = 0 by omega)] at x4
      exact jr_vret hg rfl dX1_readClause_39 (⟨rfl, zc_fin2 (z_cf_u h9 hw (by omega)) (by omega) (z_sp_n (z_ne_n hb)) x4, f1.tr (f2.tr (f3.tr f4))⟩)
    · rw [h30, if_pos rfl] at x4
      refine jr_aload_n hg 1 rfl rfl dX1_readClause_33 ?_
      refine jr_iload_n hg 2 rfl rfl dX1_readClause_34 ?_
      refine jr_iload_n hg 0 rfl rfl dX1_readClause_35 ?_
      refine jr_cV2p hg lk_X1_69 (hI 1 (by decide)) rfl rfl (by decide) (by decide) (Nat.le_of_ble_eq_true rfl) dX1_readClause_36 (c_X1_readEnd hI x4 Wt hw8 (z_sp_n (z_ne_n hb))) (fun r M' h => ?_)
      obtain ⟨rfl, x5, f5⟩ := h
      refine jr_st (show _ = [] from rfl) ?_
      by_cases q : (z_sp s (z_ne s (z_sp s (z_we s a)))) < s 0 4 ∧ s 11 (z_sp s (z_ne s (z_sp s (z_we s a)))) = 59
      · rw [if_pos q] at x5
        exact jr_vret hg rfl dX1_readClause_39 ⟨rfl, zc_fin1 (z_cf_a h9 hw h30 q) (by rw [z_cv, hw, Nat.add_sub_cancel]) x5, f1.tr (f2.tr (f3.tr (f4.tr f5)))⟩
      · rw [if_neg q] at x5
        exact jr_vret hg rfl dX1_readClause_39 ⟨rfl, zc_fin2 (z_cf_b h9 hw h30 q) (by decide) (z_sp_n (z_ne_n hb)) x5, f1.tr (f2.tr (f3.tr (f4.tr f5)))⟩
