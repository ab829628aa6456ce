set_option maxRecDepth 100000 in
theorem c_X7_oneIf {E : mm_E} (hI : mm_FX E) {M : mm_M} {a : Nat} (ha : a ≤ 1) : mm_Cal E mX7_oneIf [.int (nI a)] M (ret1 (.int (nI a)) M) := by
  refine jr_entry RX7 (by decide +kernel) (Nat.le_of_ble_eq_true rfl) (fun g hg => ?_)
  refine jr_lv (lv' := [(0, .int (nI a))]) [0] rfl ?_
  refine jr_iload_n hg 0 rfl rfl dX7_oneIf_0 ?_
  refine jr_if_eqN (tgt := 8) hg dX7_oneIf_1 (by decide) (by omega) (fun h1 => ?_) (fun h1 => ?_)
  · refine jr_iconst hg (nI 0) dX7_oneIf_8 (by decide) ?_
    exact jr_iret hg rfl dX7_oneIf_9 (⟨by rw [h1], rfl⟩)
  · refine jr_iconst hg (nI 1) dX7_oneIf_4 (by decide) ?_
    refine jr_goto (tgt := 9) hg dX7_oneIf_5 (by decide) ?_
    exact jr_iret hg rfl dX7_oneIf_9 (⟨by rw [show a = 1 by omega], rfl⟩)

set_option maxRecDepth 100000 in
theorem c_X7_isWithin {E : mm_E} (hI : mm_FX E) {M : mm_M} (v lo hi : Int32) : mm_Cal E mX7_isWithin [.int v, .int lo, .int hi] M (ret1 (.int (nI (decide (lo ≤ v ∧ v ≤ hi)).toNat)) M) := by
  refine jr_entry RX7 (by decide +kernel) (Nat.le_of_ble_eq_true rfl) (fun g hg => ?_)
  refine jr_lv (lv' := [(0, .int v), (1, .int lo), (2, .int hi)]) [0, 1, 2] rfl ?_
  refine jr_iload_n hg 0 rfl rfl dX7_isWithin_0 ?_
  refine jr_iload_n hg 1 rfl rfl dX7_isWithin_1 ?_
  refine jr_icmp_lt (tgt := 14) hg dX7_isWithin_2 (by decide) (fun h2 => ?_) (fun h2 => ?_)
  · refine jr_iconst hg (nI 0) dX7_isWithin_14 (by decide) ?_
    exact jr_zret hg rfl (by first | exact Or.inl rfl | exact Or.inr rfl | exact z01 _) dX7_isWithin_15 (⟨by rw [decide_eq_false (fun h => zlt_nle h2 h.1)]; rfl, rfl⟩)
  · refine jr_iload_n hg 0 rfl rfl dX7_isWithin_5 ?_
    refine jr_iload_n hg 2 rfl rfl dX7_isWithin_6 ?_
    refine jr_icmp_gt (tgt := 14) hg dX7_isWithin_7 (by decide) (fun h7 => ?_) (fun h7 => ?_)
    · refine jr_iconst hg (nI 0) dX7_isWithin_14 (by decide) ?_
      exact jr_zret hg rfl (by first | exact Or.inl rfl | exact Or.inr rfl | exact z01 _) dX7_isWithin_15 (⟨by rw [decide_eq_false (fun h => zlt_nle h7 h.2)]; rfl, rfl⟩)
    · refine jr_iconst hg (nI 1) dX7_isWithin_10 (by decide) ?_
      refine jr_goto (tgt := 15) hg dX7_isWithin_11 (by decide) ?_
      exact jr_zret hg rfl (by first | exact Or.inl rfl | exact Or.inr rfl | exact z01 _) dX7_isWithin_15 (⟨by rw [decide_eq_true ⟨znlt_le h2, znlt_le h7⟩]; rfl, rfl⟩)

set_option maxRecDepth 100000 in
theorem c_X7_isKindN {E : mm_E} (hI : mm_FX E) {M : mm_M} {j : Nat} (hj : j < 2 ^ 31) : mm_Cal E mX7_isKind [.int (nI j)] M (ret1 (.int (nI (decide (j < 3)).toNat)) M) := by
  refine jr_entry RX7 (by decide +kernel) (Nat.le_of_ble_eq_true rfl) (fun g hg => ?_)
  refine jr_lv (lv' := [(0, .int (nI j))]) [0] rfl ?_
  refine jr_iload_n hg 0 rfl rfl dX7_isKind_0 ?_
  refine jr_if_ltN hg dX7_isKind_1 (tgt := 13) (by decide) (by omega) ?_
  refine jr_iload_n hg 0 rfl rfl dX7_isKind_4 ?_
  refine jr_iconst hg (nI 2) dX7_isKind_5 (by decide) ?_
  refine jr_icmp_gtN (tgt := 13) hg dX7_isKind_6 (by decide) (by omega) (by omega) (fun h6 => ?_) (fun h6 => ?_)
  · refine jr_iconst hg (nI 0) dX7_isKind_13 (by decide) ?_
    exact jr_zret hg rfl (by first | exact Or.inl rfl | exact Or.inr rfl | exact z01 _) dX7_isKind_14 (⟨by rw [decide_eq_false (by omega)]; rfl, rfl⟩)
  · refine jr_iconst hg (nI 1) dX7_isKind_9 (by decide) ?_
    refine jr_goto (tgt := 14) hg dX7_isKind_10 (by decide) ?_
    exact jr_zret hg rfl (by first | exact Or.inl rfl | exact Or.inr rfl | exact z01 _) dX7_isKind_14 (⟨by rw [decide_eq_true (by omega)]; rfl, rfl⟩)

set_option maxRecDepth 100000 in
theorem c_X7_isKind_neg {E : mm_E} (hI : mm_FX E) {M : mm_M} {x : Int32} (hx : x < 0) : mm_Cal E mX7_isKind [.int x] M (ret1 (.int (nI 0)) M) := by
  refine jr_entry RX7 (by decide +kernel) (Nat.le_of_ble_eq_true rfl) (fun g hg => ?_)
  refine jr_lv (lv' := [(0, .int x)]) [0] rfl ?_
  refine jr_iload_n hg 0 rfl rfl dX7_isKind_0 ?_
  refine jr_if_lt (tgt := 13) hg dX7_isKind_1 (by decide) (fun h1 => ?_) (fun h => absurd hx h)
  refine jr_iconst hg (nI 0) dX7_isKind_13 (by decide) ?_
  exact jr_zret hg rfl (by first | exact Or.inl rfl | exact Or.inr rfl | exact z01 _) dX7_isKind_14 (⟨rfl, rfl⟩)

theorem c_X7_isKind {E : mm_E} (hI : mm_FX E) {M : mm_M} (x : Int32) : mm_Cal E mX7_isKind [.int x] M (ret1 (.int (nI (zin x 3).toNat)) M) := by
  rcases zcase x 3 with h | ⟨j, h, h2, rfl⟩ | ⟨j, h, h2, rfl⟩
  · rw [zin_neg h]; exact c_X7_isKind_neg hI h
  · rw [zin_nI h2]; exact c_X7_isKindN hI h2
  · rw [zin_nI h2]; exact c_X7_isKindN hI h2
theorem c_X7_isWithin0 {E : mm_E} (hI : mm_FX E) {M : mm_M} (x : Int32) {n : Nat} (hn : n + 1 < 2 ^ 31) : mm_Cal E mX7_isWithin [.int x, .int (nI 0), .int (nI n)] M (ret1 (.int (nI (zin x (n + 1)).toNat)) M) := by
  have h := c_X7_isWithin hI (M := M) x (nI 0) (nI n)
  have e : decide (nI 0 ≤ x ∧ x ≤ nI n) = zin x (n + 1) := by
    rw [zin]
    have h1 : nI 0 ≤ x ↔ 0 ≤ x.toInt := by rw [Int32.le_iff_toInt_le, nI_toInt (by decide)]; simp
    have h2 : x ≤ nI n ↔ x.toInt < ((n + 1 : Nat) : Int) := by rw [Int32.le_iff_toInt_le, nI_toInt (by omega)]; omega
    simp only [h1, h2]
  rw [e] at h
  exact h

set_option maxRecDepth 100000 in
theorem c_X7_isRule {E : mm_E} (hI : mm_FX E) {M : mm_M} (x : Int32) : mm_Cal E mX7_isRule [.int x] M (ret1 (.int (nI (zin x 3).toNat)) M) := by
  refine jr_entry RX7 (by decide +kernel) (Nat.le_of_ble_eq_true rfl) (fun g hg => ?_)
  refine jr_lv (lv' := [(0, .int x)]) [0] rfl ?_
  refine jr_iload_n hg 0 rfl rfl dX7_isRule_0 ?_
  refine jr_iconst hg (nI 0) dX7_isRule_1 (by decide) ?_
  refine jr_iconst hg (nI 2) dX7_isRule_2 (by decide) ?_
  refine jr_cS3v hg lk_X7_62 (by decide) (by decide) (Nat.le_of_ble_eq_true rfl) dX7_isRule_3 (c_X7_isWithin0 hI _ (by decide)) ?_
  exact jr_zret hg rfl (by first | exact Or.inl rfl | exact Or.inr rfl | exact z01 _) dX7_isRule_6 (⟨rfl, rfl⟩)

set_option maxRecDepth 100000 in
theorem c_X7_isArm {E : mm_E} (hI : mm_FX E) {M : mm_M} {j : Nat} (hj : j < 2 ^ 31) : mm_Cal E mX7_isArm [.int (nI j)] M (ret1 (.int (nI (decide (j = 1 ∨ j = 2)).toNat)) M) := by
  refine jr_entry RX7 (by decide +kernel) (Nat.le_of_ble_eq_true rfl) (fun g hg => ?_)
  refine jr_lv (lv' := [(0, .int (nI j))]) [0] rfl ?_
  refine jr_iload_n hg 0 rfl rfl dX7_isArm_0 ?_
  refine jr_iconst hg (nI 1) dX7_isArm_1 (by decide) ?_
  refine jr_icmp_eqN (tgt := 10) hg dX7_isArm_2 (by decide) (by omega) (by omega) (fun h2 => ?_) (fun h2 => ?_)
  · refine jr_iconst hg (nI 1) dX7_isArm_10 (by decide) ?_
    refine jr_goto (tgt := 15) hg dX7_isArm_11 (by decide) ?_
    exact jr_zret hg rfl (by first | exact Or.inl rfl | exact Or.inr rfl | exact z01 _) dX7_isArm_15 (⟨by rw [decide_eq_true (Or.inl h2)]; rfl, rfl⟩)
  · refine jr_iload_n hg 0 rfl rfl dX7_isArm_5 ?_
    refine jr_iconst hg (nI 2) dX7_isArm_6 (by decide) ?_
    refine jr_icmp_neN (tgt := 14) hg dX7_isArm_7 (by decide) (by omega) (by omega) (fun h7 => ?_) (fun h7 => ?_)
    · refine jr_iconst hg (nI 0) dX7_isArm_14 (by decide) ?_
      exact jr_zret hg rfl (by first | exact Or.inl rfl | exact Or.inr rfl | exact z01 _) dX7_isArm_15 (⟨by rw [decide_eq_false (by omega)]; rfl, rfl⟩)
    · refine jr_iconst hg (nI 1) dX7_isArm_10 (by decide) ?_
      refine jr_goto (tgt := 15) hg dX7_isArm_11 (by decide) ?_
      exact jr_zret hg rfl (by first | exact Or.inl rfl | exact Or.inr rfl | exact z01 _) dX7_isArm_15 (⟨by rw [decide_eq_true (Or.inr h7)]; rfl, rfl⟩)

set_option maxRecDepth 100000 in
theorem c_X7_turned {E : mm_E} (hI : mm_FX E) {M : mm_M} {j : Nat} (hj : j ≤ 2) : mm_Cal E mX7_turned [.int (nI j)] M (ret1 (.int (nI (if j = 0 then 0 else 3 - j))) M) := by
  refine jr_entry RX7 (by decide +kernel) (Nat.le_of_ble_eq_true rfl) (fun g hg => ?_)
  refine jr_lv (lv' := [(0, .int (nI j))]) [0] rfl ?_
  refine jr_iload_n hg 0 rfl rfl dX7_turned_0 ?_
  refine jr_cS1v hg lk_X7_255 (by decide) (by decide) (Nat.le_of_ble_eq_true rfl) dX7_turned_1 (c_X7_isArm hI (by omega)) ?_
  refine jr_if_eqZ (tgt := 13) hg dX7_turned_4 (by decide) (fun h4 => ?_) (fun h4 => ?_)
  · refine jr_iload_n hg 0 rfl rfl dX7_turned_13 ?_
    exact jr_iret hg rfl dX7_turned_14 (⟨by rw [if_pos (by have := of_decide_eq_false h4; omega), show j = 0 by have := of_decide_eq_false h4; omega], rfl⟩)
  · refine jr_iconst hg (nI 3) dX7_turned_7 (by decide) ?_
    refine jr_iload_n hg 0 rfl rfl dX7_turned_8 ?_
    refine jr_isubN hg dX7_turned_9 (by omega) ?_
    refine jr_goto (tgt := 14) hg dX7_turned_10 (by decide) ?_
    exact jr_iret hg rfl dX7_turned_14 (⟨by rw [if_neg (by have := of_decide_eq_true h4; omega)], rfl⟩)

set_option maxRecDepth 100000 in
theorem c_X4_size {E : mm_E} (hI : mm_FX E) {M : mm_M} {s : zS} (hR : zX_p s M) (hW : zW_p s) : mm_Cal E mX4_size [.ref (E.1 4)] M (ret1 (.int (nI (s 0 0))) M) := by
  have hn := hW.1
  refine jr_entry RX4 (by decide +kernel) (Nat.le_of_ble_eq_true rfl) (fun g hg => ?_)
  refine jr_lv (lv' := [(0, .ref (E.1 4))]) [0] rfl ?_
  refine jr_aload_n hg 0 rfl rfl dX4_size_0 ?_
  refine gf_X4_28 hg (hI 4 (by decide)) dX4_size_1 ?_
  refine jr_top (hR.1) ?_
  exact jr_iret hg rfl dX4_size_4 (⟨rfl, rfl⟩)

set_option maxRecDepth 100000 in
theorem c_X4_has_yes {E : mm_E} (hI : mm_FX E) {M : mm_M} {s : zS} (hR : zX_p s M) (hW : zW_p s) {j : Nat} (hj : j < s 0 0) : mm_Cal E mX4_has [.ref (E.1 4), .int (nI j)] M (ret1 (.int (nI 1)) M) := by
  have hn := hW.1
  refine jr_entry RX4 (by decide +kernel) (Nat.le_of_ble_eq_true rfl) (fun g hg => ?_)
  refine jr_lv (lv' := [(0, .ref (E.1 4)), (1, .int (nI j))]) [0, 1] rfl ?_
  refine jr_iload_n hg 1 rfl rfl dX4_has_0 ?_
  refine jr_if_ltN hg dX4_has_1 (tgt := 22) (by decide) (by omega) ?_
  refine jr_iload_n hg 1 rfl rfl dX4_has_4 ?_
  refine jr_aload_n hg 0 rfl rfl dX4_has_5 ?_
  refine gf_X4_28 hg (hI 4 (by decide)) dX4_has_6 ?_
  refine jr_top (hR.1) ?_
  refine jr_icmp_geN (tgt := 22) hg dX4_has_9 (by decide) (by omega) (by omega) (fun h => by omega) (fun h9 => ?_)
  refine jr_iload_n hg 1 rfl rfl dX4_has_12 ?_
  refine jr_bipush hg (nI 24) dX4_has_13 (by decide) ?_
  refine jr_icmp_geN (tgt := 22) hg dX4_has_15 (by decide) (by omega) (by omega) (fun h => by omega) (fun h15 => ?_)
  refine jr_iconst hg (nI 1) dX4_has_18 (by decide) ?_
  refine jr_goto (tgt := 23) hg dX4_has_19 (by decide) ?_
  exact jr_zret hg rfl (by first | exact Or.inl rfl | exact Or.inr rfl | exact z01 _) dX4_has_23 (⟨rfl, rfl⟩)

set_option maxRecDepth 100000 in
theorem c_X4_has_big {E : mm_E} (hI : mm_FX E) {M : mm_M} {s : zS} (hR : zX_p s M) (hW : zW_p s) {j : Nat} (hj : s 0 0 ≤ j) (hj2 : j < 2 ^ 31) : mm_Cal E mX4_has [.ref (E.1 4), .int (nI j)] M (ret1 (.int (nI 0)) M) := by
  have hn := hW.1
  refine jr_entry RX4 (by decide +kernel) (Nat.le_of_ble_eq_true rfl) (fun g hg => ?_)
  refine jr_lv (lv' := [(0, .ref (E.1 4)), (1, .int (nI j))]) [0, 1] rfl ?_
  refine jr_iload_n hg 1 rfl rfl dX4_has_0 ?_
  refine jr_if_ltN hg dX4_has_1 (tgt := 22) (by decide) (by omega) ?_
  refine jr_iload_n hg 1 rfl rfl dX4_has_4 ?_
  refine jr_aload_n hg 0 rfl rfl dX4_has_5 ?_
  refine gf_X4_28 hg (hI 4 (by decide)) dX4_has_6 ?_
  refine jr_top (hR.1) ?_
  refine jr_icmp_geN (tgt := 22) hg dX4_has_9 (by decide) (by omega) (by omega) (fun h9 => ?_) (fun h => by omega)
  refine jr_iconst hg (nI 0) dX4_has_22 (by decide) ?_
  exact jr_zret hg rfl (by first | exact Or.inl rfl | exact Or.inr rfl | exact z01 _) dX4_has_23 (⟨rfl, rfl⟩)

set_option maxRecDepth 100000 in
theorem c_X4_has_neg {E : mm_E} (hI : mm_FX E) {M : mm_M} {s : zS} (hR : zX_p s M) (hW : zW_p s) {x : Int32} (hx : x < 0) : mm_Cal E mX4_has [.ref (E.1 4), .int x] M (ret1 (.int (nI 0)) M) := by
  have hn := hW.1
  refine jr_entry RX4 (by decide +kernel) (Nat.le_of_ble_eq_true rfl) (fun g hg => ?_)
  refine jr_lv (lv' := [(0, .ref (E.1 4)), (1, .int x)]) [0, 1] rfl ?_
  refine jr_iload_n hg 1 rfl rfl dX4_has_0 ?_
  refine jr_if_lt (tgt := 22) hg dX4_has_1 (by decide) (fun h1 => ?_) (fun h => absurd hx h)
  refine jr_iconst hg (nI 0) dX4_has_22 (by decide) ?_
  exact jr_zret hg rfl (by first | exact Or.inl rfl | exact Or.inr rfl | exact z01 _) dX4_has_23 (⟨rfl, rfl⟩)

theorem c_X4_has {E : mm_E} (hI : mm_FX E) {M : mm_M} {s : zS} (hR : zX_p s M) (hW : zW_p s) (x : Int32) : mm_Cal E mX4_has [.ref (E.1 4), .int x] M (ret1 (.int (nI (zin x (s 0 0)).toNat)) M) := by
  have hn := hW.1
  rcases zcase x (s 0 0) with h | ⟨j, h, h2, rfl⟩ | ⟨j, h, h2, rfl⟩
  · rw [zin_neg h]; exact c_X4_has_neg hI hR hW h
  · rw [zin_t h (by omega)]; exact c_X4_has_yes hI hR hW h
  · rw [zin_f h h2]; exact c_X4_has_big hI hR hW h h2

set_option maxRecDepth 100000 in
theorem c_X4_kindOf {E : mm_E} (hI : mm_FX E) {M : mm_M} {s : zS} (hR : zX_p s M) (hW : zW_p s) {j : Nat} (hj : j < s 0 0) : mm_Cal E mX4_kindOf [.ref (E.1 4), .int (nI j)] M (ret1 (.int (nI (s 1 j))) M) := by
  have hn := hW.1
  refine jr_entry RX4 (by decide +kernel) (Nat.le_of_ble_eq_true rfl) (fun g hg => ?_)
  refine jr_lv (lv' := [(0, .ref (E.1 4)), (1, .int (nI j))]) [0, 1] rfl ?_
  refine jr_aload_n hg 0 rfl rfl dX4_kindOf_0 ?_
  refine jr_iload_n hg 1 rfl rfl dX4_kindOf_1 ?_
  refine jr_cV1v hg lk_X4_32 (hI 4 (by decide)) rfl rfl (by decide) (by decide) (Nat.le_of_ble_eq_true rfl) dX4_kindOf_2 (c_X4_has_yes hI hR hW hj) ?_
  refine jr_if_eqN (tgt := 17) hg dX4_kindOf_5 (by decide) (by omega) (fun h => by omega) (fun h5 => ?_)
  refine jr_aload_n hg 0 rfl rfl dX4_kindOf_8 ?_
  refine gf_X4_9 hg (hI 4 (by decide)) dX4_kindOf_9 ?_
  refine jr_iload_n hg 1 rfl rfl dX4_kindOf_12 ?_
  refine jr_ialdN hg (n := 24) (by omega) (by decide) (hI 20 (by decide)) (ac_20 _ _) dX4_kindOf_13 ?_
  refine jr_top ((hR.2 _ (by omega)).1) ?_
  refine jr_goto (tgt := 18) hg dX4_kindOf_14 (by decide) ?_
  exact jr_iret hg rfl dX4_kindOf_18 (⟨rfl, rfl⟩)

set_option maxRecDepth 100000 in
theorem c_X4_farOf {E : mm_E} (hI : mm_FX E) {M : mm_M} {s : zS} (hR : zX_p s M) (hW : zW_p s) {j : Nat} (hj : j < s 0 0) : mm_Cal E mX4_farOf [.ref (E.1 4), .int (nI j)] M (ret1 (.int (nI (s 2 j))) M) := by
  have hn := hW.1
  refine jr_entry RX4 (by decide +kernel) (Nat.le_of_ble_eq_true rfl) (fun g hg => ?_)
  refine jr_lv (lv' := [(0, .ref (E.1 4)), (1, .int (nI j))]) [0, 1] rfl ?_
  refine jr_aload_n hg 0 rfl rfl dX4_farOf_0 ?_
  refine jr_iload_n hg 1 rfl rfl dX4_farOf_1 ?_
  refine jr_cV1v hg lk_X4_32 (hI 4 (by decide)) rfl rfl (by decide) (by decide) (Nat.le_of_ble_eq_true rfl) dX4_farOf_2 (c_X4_has_yes hI hR hW hj) ?_
  refine jr_if_eqN (tgt := 17) hg dX4_farOf_5 (by decide) (by omega) (fun h => by omega) (fun h5 => ?_)
  refine jr_aload_n hg 0 rfl rfl dX4_farOf_8 ?_
  refine gf_X4_15 hg (hI 4 (by decide)) dX4_farOf_9 ?_
  refine jr_iload_n hg 1 rfl rfl dX4_farOf_12 ?_
  refine jr_ialdN hg (n := 24) (by omega) (by decide) (hI 21 (by decide)) (ac_21 _ _) dX4_farOf_13 ?_
  refine jr_top ((hR.2 _ (by omega)).2.1) ?_
  refine jr_goto (tgt := 18) hg dX4_farOf_14 (by decide) ?_
  exact jr_iret hg rfl dX4_farOf_18 (⟨rfl, rfl⟩)

set_option maxRecDepth 100000 in
theorem c_X4_depthOf {E : mm_E} (hI : mm_FX E) {M : mm_M} {s : zS} (hR : zX_p s M) (hW : zW_p s) {j : Nat} (hj : j < s 0 0) : mm_Cal E mX4_depthOf [.ref (E.1 4), .int (nI j)] M (ret1 (.int (nI (s 3 j))) M) := by
  have hn := hW.1
  refine jr_entry RX4 (by decide +kernel) (Nat.le_of_ble_eq_true rfl) (fun g hg => ?_)
  refine jr_lv (lv' := [(0, .ref (E.1 4)), (1, .int (nI j))]) [0, 1] rfl ?_
  refine jr_aload_n hg 0 rfl rfl dX4_depthOf_0 ?_
  refine jr_iload_n hg 1 rfl rfl dX4_depthOf_1 ?_
  refine jr_cV1v hg lk_X4_32 (hI 4 (by decide)) rfl rfl (by decide) (by decide) (Nat.le_of_ble_eq_true rfl) dX4_depthOf_2 (c_X4_has_yes hI hR hW hj) ?_
  refine jr_if_eqN (tgt := 17) hg dX4_depthOf_5 (by decide) (by omega) (fun h => by omega) (fun h5 => ?_)
  refine jr_aload_n hg 0 rfl rfl dX4_depthOf_8 ?_
  refine gf_X4_18 hg (hI 4 (by decide)) dX4_depthOf_9 ?_
  refine jr_iload_n hg 1 rfl rfl dX4_depthOf_12 ?_
  refine jr_ialdN hg (n := 24) (by omega) (by decide) (hI 22 (by decide)) (ac_22 _ _) dX4_depthOf_13 ?_
  refine jr_top ((hR.2 _ (by omega)).2.2.1) ?_
  refine jr_goto (tgt := 18) hg dX4_depthOf_14 (by decide) ?_
  exact jr_iret hg rfl dX4_depthOf_18 (⟨rfl, rfl⟩)

set_option maxRecDepth 100000 in
theorem c_X4_originalOf {E : mm_E} (hI : mm_FX E) {M : mm_M} {s : zS} (hR : zX_p s M) (hW : zW_p s) {j : Nat} (hj : j < s 0 0) : mm_Cal E mX4_originalOf [.ref (E.1 4), .int (nI j)] M (ret1 (.int (zmv (s 5 j))) M) := by
  have hn := hW.1
  refine jr_entry RX4 (by decide +kernel) (Nat.le_of_ble_eq_true rfl) (fun g hg => ?_)
  refine jr_lv (lv' := [(0, .ref (E.1 4)), (1, .int (nI j))]) [0, 1] rfl ?_
  refine jr_aload_n hg 0 rfl rfl dX4_originalOf_0 ?_
  refine jr_iload_n hg 1 rfl rfl dX4_originalOf_1 ?_
  refine jr_cV1v hg lk_X4_32 (hI 4 (by decide)) rfl rfl (by decide) (by decide) (Nat.le_of_ble_eq_true rfl) dX4_originalOf_2 (c_X4_has_yes hI hR hW hj) ?_
  refine jr_if_eqN (tgt := 17) hg dX4_originalOf_5 (by decide) (by omega) (fun h => by omega) (fun h5 => ?_)
  refine jr_aload_n hg 0 rfl rfl dX4_originalOf_8 ?_
  refine gf_X4_21 hg (hI 4 (by decide)) dX4_originalOf_9 ?_
  refine jr_iload_n hg 1 rfl rfl dX4_originalOf_12 ?_
  refine jr_ialdN hg (n := 24) (by omega) (by decide) (hI 23 (by decide)) (ac_23 _ _) dX4_originalOf_13 ?_
  refine jr_top ((hR.2 _ (by omega)).2.2.2.2) ?_
  refine jr_goto (tgt := 18) hg dX4_originalOf_14 (by decide) ?_
  exact jr_iret hg rfl dX4_originalOf_18 (⟨rfl, rfl⟩)

set_option maxRecDepth 100000 in
theorem c_X4_isKnown {E : mm_E} (hI : mm_FX E) {M : mm_M} {s : zS} (hR : zX_p s M) (hW : zW_p s) {j : Nat} (hj : j < s 0 0) : mm_Cal E mX4_isKnown [.ref (E.1 4), .int (nI j)] M (ret1 (.int (nI (s 4 j))) M) := by
  have hn := hW.1
  refine jr_entry RX4 (by decide +kernel) (Nat.le_of_ble_eq_true rfl) (fun g hg => ?_)
  refine jr_lv (lv' := [(0, .ref (E.1 4)), (1, .int (nI j))]) [0, 1] rfl ?_
  refine jr_aload_n hg 0 rfl rfl dX4_isKnown_0 ?_
  refine jr_iload_n hg 1 rfl rfl dX4_isKnown_1 ?_
  refine jr_cV1v hg lk_X4_32 (hI 4 (by decide)) rfl rfl (by decide) (by decide) (Nat.le_of_ble_eq_true rfl) dX4_isKnown_2 (c_X4_has_yes hI hR hW hj) ?_
  refine jr_if_eqN (tgt := 21) hg dX4_isKnown_5 (by decide) (by omega) (fun h => by omega) (fun h5 => ?_)
  refine jr_aload_n hg 0 rfl rfl dX4_isKnown_8 ?_
  refine gf_X4_24 hg (hI 4 (by decide)) dX4_isKnown_9 ?_
  refine jr_iload_n hg 1 rfl rfl dX4_isKnown_12 ?_
  refine jr_zaldN hg (n := 24) (by omega) (by decide) (hI 24 (by decide)) (ac_24 _ _) dX4_isKnown_13 ?_
  refine jr_top ((hR.2 _ (by omega)).2.2.2.1) ?_
  have hk := (hW.2 j hj).2.2.2.1
  refine jr_if_eqN (tgt := 21) hg dX4_isKnown_14 (by decide) (by omega) (fun h14 => ?_) (fun h14 => ?_)
  · refine jr_iconst hg (nI 0) dX4_isKnown_21 (by decide) ?_
    exact jr_zret hg rfl (by first | exact Or.inl rfl | exact Or.inr rfl | exact z01 _) dX4_isKnown_22 (⟨by rw [h14], rfl⟩)
  · refine jr_iconst hg (nI 1) dX4_isKnown_17 (by decide) ?_
    refine jr_goto (tgt := 22) hg dX4_isKnown_18 (by decide) ?_
    exact jr_zret hg rfl (by first | exact Or.inl rfl | exact Or.inr rfl | exact z01 _) dX4_isKnown_22 (⟨by rw [show s 4 j = 1 by omega], rfl⟩)

set_option maxRecDepth 100000 in
theorem c_X4_knownOnes {E : mm_E} (hI : mm_FX E) {M : mm_M} {s : zS} (hR : zX_p s M) (hW : zW_p s) : mm_Cal E mX4_knownOnes [.ref (E.1 4)] M (ret1 (.int (nI (zsum (s 4) (s 0 0)))) M) := by
  have hn := hW.1
  refine jr_entry RX4 (by decide +kernel) (Nat.le_of_ble_eq_true rfl) (fun g hg => ?_)
  refine jr_lv (lv' := [(0, .ref (E.1 4))]) [0] rfl ?_
  refine jr_iconst hg (nI 0) dX4_knownOnes_0 (by decide) ?_
  refine jr_istore_n hg dX4_knownOnes_1 rfl (by decide) rfl ?_
  refine jr_iconst hg (nI 0) dX4_knownOnes_2 (by decide) ?_
  refine jr_istore_n hg dX4_knownOnes_3 rfl (by decide) rfl ?_
  have lp4 : ∀ p : Nat, p ≤ s 0 0 → mm_J g E mX4_knownOnes (ret1 (.int (nI (zsum (s 4) (s 0 0)))) M) 4 [(0, .ref (E.1 4)), (1, .int (nI (zsum (s 4) p))), (2, .int (nI p))] [] (M) := by
    refine jr_up (S := fun p => mm_J g E mX4_knownOnes (ret1 (.int (nI (zsum (s 4) (s 0 0)))) M) 4 [(0, .ref (E.1 4)), (1, .int (nI (zsum (s 4) p))), (2, .int (nI p))] [] M) (n := s 0 0) ?_ ?_
    · show mm_J g E mX4_knownOnes (ret1 (.int (nI (zsum (s 4) (s 0 0)))) M) 4 [(0, .ref (E.1 4)), (1, .int (nI (zsum (s 4) (s 0 0)))), (2, .int (nI (s 0 0)))] [] (M)
      refine jr_iload_n hg 2 rfl rfl dX4_knownOnes_4 ?_
      refine jr_aload_n hg 0 rfl rfl dX4_knownOnes_5 ?_
      refine gf_X4_28 hg (hI 4 (by decide)) dX4_knownOnes_6 ?_
      refine jr_top (hR.1) ?_
      refine jr_icmp_geN (tgt := 29) hg dX4_knownOnes_9 (by decide) (by omega) (by omega) (fun h9 => ?_) (fun h => by omega)
      refine jr_iload_n hg 1 rfl rfl dX4_knownOnes_29 ?_
      exact jr_iret hg rfl dX4_knownOnes_30 (⟨rfl, rfl⟩)
    · intro p hp ih
      show mm_J g E mX4_knownOnes (ret1 (.int (nI (zsum (s 4) (s 0 0)))) M) 4 [(0, .ref (E.1 4)), (1, .int (nI (zsum (s 4) p))), (2, .int (nI p))] [] (M)
      refine jr_iload_n hg 2 rfl rfl dX4_knownOnes_4 ?_
      refine jr_aload_n hg 0 rfl rfl dX4_knownOnes_5 ?_
      refine gf_X4_28 hg (hI 4 (by decide)) dX4_knownOnes_6 ?_
      refine jr_top (hR.1) ?_
      refine jr_icmp_geN (tgt := 29) hg dX4_knownOnes_9 (by decide) (by omega) (by omega) (fun h => by omega) (fun h9 => ?_)
      refine jr_iload_n hg 1 rfl rfl dX4_knownOnes_12 ?_
      refine jr_aload_n hg 0 rfl rfl dX4_knownOnes_13 ?_
      refine jr_iload_n hg 2 rfl rfl dX4_knownOnes_14 ?_
      refine jr_cV1v hg lk_X4_36 (hI 4 (by decide)) rfl rfl (by decide) (by decide) (Nat.le_of_ble_eq_true rfl) dX4_knownOnes_15 (c_X4_isKnown hI hR hW hp) ?_
      refine cn_X4_39 hg (by decide) (Nat.le_of_ble_eq_true rfl) dX4_knownOnes_18 (c_X7_oneIf hI (hW.2 p hp).2.2.2.1) ?_
      refine jr_iaddN hg dX4_knownOnes_21 ?_
      refine jr_istore_n hg dX4_knownOnes_22 rfl (by decide) rfl ?_
      refine jr_iinc hg 2 rfl (nI (_ + 1)) (nI_1 _) dX4_knownOnes_23 (by decide) rfl ?_
      refine jr_goto (tgt := 4) hg dX4_knownOnes_26 (by decide) ?_
      exact jr_lv [2, 1, 0] rfl ih
  exact jr_lv [2, 1, 0] rfl (lp4 0 (by omega))

set_option maxRecDepth 100000 in
theorem c_X4_mirrors {E : mm_E} (hI : mm_FX E) {M : mm_M} {s : zS} (hR : zX_p s M) (hW : zW_p s) : mm_Cal E mX4_mirrors [.ref (E.1 4)] M (ret1 (.int (nI (zcnt (z_mi s) (s 0 0)))) M) := by
  have hn := hW.1
  refine jr_entry RX4 (by decide +kernel) (Nat.le_of_ble_eq_true rfl) (fun g hg => ?_)
  refine jr_lv (lv' := [(0, .ref (E.1 4))]) [0] rfl ?_
  refine jr_iconst hg (nI 0) dX4_mirrors_0 (by decide) ?_
  refine jr_istore_n hg dX4_mirrors_1 rfl (by decide) rfl ?_
  refine jr_iconst hg (nI 0) dX4_mirrors_2 (by decide) ?_
  refine jr_istore_n hg dX4_mirrors_3 rfl (by decide) rfl ?_
  have lp4 : ∀ p : Nat, p ≤ s 0 0 → mm_J g E mX4_mirrors (ret1 (.int (nI (zcnt (z_mi s) (s 0 0)))) M) 4 [(0, .ref (E.1 4)), (1, .int (nI (zcnt (z_mi s) p))), (2, .int (nI p))] [] (M) := by
    refine jr_up (S := fun p => mm_J g E mX4_mirrors (ret1 (.int (nI (zcnt (z_mi s) (s 0 0)))) M) 4 [(0, .ref (E.1 4)), (1, .int (nI (zcnt (z_mi s) p))), (2, .int (nI p))] [] M) (n := s 0 0) ?_ ?_
    · show mm_J g E mX4_mirrors (ret1 (.int (nI (zcnt (z_mi s) (s 0 0)))) M) 4 [(0, .ref (E.1 4)), (1, .int (nI (zcnt (z_mi s) (s 0 0)))), (2, .int (nI (s 0 0)))] [] (M)
      refine jr_iload_n hg 2 rfl rfl dX4_mirrors_4 ?_
      refine jr_aload_n hg 0 rfl rfl dX4_mirrors_5 ?_
      refine gf_X4_28 hg (hI 4 (by decide)) dX4_mirrors_6 ?_
      refine jr_top (hR.1) ?_
      refine jr_icmp_geN (tgt := 38) hg dX4_mirrors_9 (by decide) (by omega) (by omega) (fun h9 => ?_) (fun h => by omega)
      refine jr_iload_n hg 1 rfl rfl dX4_mirrors_38 ?_
      exact jr_iret hg rfl dX4_mirrors_39 (⟨rfl, rfl⟩)
    · intro p hp ih
      show mm_J g E mX4_mirrors (ret1 (.int (nI (zcnt (z_mi s) (s 0 0)))) M) 4 [(0, .ref (E.1 4)), (1, .int (nI (zcnt (z_mi s) p))), (2, .int (nI p))] [] (M)
      refine jr_iload_n hg 2 rfl rfl dX4_mirrors_4 ?_
      refine jr_aload_n hg 0 rfl rfl dX4_mirrors_5 ?_
      refine gf_X4_28 hg (hI 4 (by decide)) dX4_mirrors_6 ?_
      refine jr_top (hR.1) ?_
      refine jr_icmp_geN (tgt := 38) hg dX4_mirrors_9 (by decide) (by omega) (by omega) (fun h => by omega) (fun h9 => ?_)
      refine jr_iload_n hg 1 rfl rfl dX4_mirrors_12 ?_
      refine jr_aload_n hg 0 rfl rfl dX4_mirrors_13 ?_
      refine jr_iload_n hg 2 rfl rfl dX4_mirrors_14 ?_
      refine jr_cV1v hg lk_X4_43 (hI 4 (by decide)) rfl rfl (by decide) (by decide) (Nat.le_of_ble_eq_true rfl) dX4_mirrors_15 (c_X4_originalOf hI hR hW hp) ?_
      refine jr_iconst hg (-1) dX4_mirrors_18 (by decide) ?_
      refine jr_icmp_eq (tgt := 26) hg dX4_mirrors_19 (by decide) (fun h19 => ?_) (fun h19 => ?_)
      · refine jr_iconst hg (nI 0) dX4_mirrors_26 (by decide) ?_
        refine cn_X4_39 hg (by decide) (Nat.le_of_ble_eq_true rfl) dX4_mirrors_27 (c_X7_oneIf hI (by decide)) ?_
        refine jr_iaddN hg dX4_mirrors_30 ?_
        refine jr_istore_n hg dX4_mirrors_31 rfl (by decide) rfl ?_
        refine jr_iinc hg 2 rfl (nI (_ + 1)) (nI_1 _) dX4_mirrors_32 (by decide) rfl ?_
        refine jr_goto (tgt := 4) hg dX4_mirrors_35 (by decide) ?_
        have e : zcnt (z_mi s) (p + 1) = zcnt (z_mi s) p + 0 := by
          have z := zmv_m1 (zW_mo hW hp)
          rw [zcnt_s, z_mi]
          have q : s 5 p = 0 := by rw [← z]; exact h19
          simp [q]
        rw [e] at ih
        exact jr_lv [2, 1, 0] rfl ih
      · refine jr_iconst hg (nI 1) dX4_mirrors_22 (by decide) ?_
        refine jr_goto (tgt := 27) hg dX4_mirrors_23 (by decide) ?_
        refine cn_X4_39 hg (by decide) (Nat.le_of_ble_eq_true rfl) dX4_mirrors_27 (c_X7_oneIf hI (by decide)) ?_
        refine jr_iaddN hg dX4_mirrors_30 ?_
        refine jr_istore_n hg dX4_mirrors_31 rfl (by decide) rfl ?_
        refine jr_iinc hg 2 rfl (nI (_ + 1)) (nI_1 _) dX4_mirrors_32 (by decide) rfl ?_
        refine jr_goto (tgt := 4) hg dX4_mirrors_35 (by decide) ?_
        have e : zcnt (z_mi s) (p + 1) = zcnt (z_mi s) p + 1 := by
          have z := zmv_m1 (zW_mo hW hp)
          rw [zcnt_s, z_mi]
          have q : s 5 p ≠ 0 := fun e => h19 (z.mpr e)
          simp [q]
        rw [e] at ih
        exact jr_lv [2, 1, 0] rfl ih
  exact jr_lv [2, 1, 0] rfl (lp4 0 (by omega))

set_option maxRecDepth 100000 in
theorem c_X4_add_full {E : mm_E} (hI : mm_FX E) {M : mm_M} {s : zS} (hR : zX_p s M) (hW : zW_p s) {k f d kn o : Int32} (hfull : s 0 0 = 24) : mm_Cal E mX4_add [.ref (E.1 4), .int k, .int f, .int d, .int kn, .int o] M (ret1 (.int (-1004)) M) := by
  have hn := hW.1
  refine jr_entry RX4 (by decide +kernel) (Nat.le_of_ble_eq_true rfl) (fun g hg => ?_)
  refine jr_lv (lv' := [(0, .ref (E.1 4)), (1, .int k), (2, .int f), (3, .int d), (4, .int kn), (5, .int o)]) [0, 1, 2, 3, 4, 5] rfl ?_
  refine jr_aload_n hg 0 rfl rfl dX4_add_0 ?_
  refine gf_X4_28 hg (hI 4 (by decide)) dX4_add_1 ?_
  refine jr_top (hR.1) ?_
  refine jr_bipush hg (nI 24) dX4_add_4 (by decide) ?_
  refine jr_icmp_ltN (tgt := 13) hg dX4_add_6 (by decide) (by omega) (by omega) (fun h => by omega) (fun h6 => ?_)
  refine jr_sipush hg (-1004) dX4_add_9 (by decide) ?_
  exact jr_iret hg rfl dX4_add_12 (⟨rfl, rfl⟩)

set_option maxRecDepth 100000 in
theorem c_X4_add {E : mm_E} (hI : mm_FX E) {M : mm_M} {s : zS} (hR : zX_p s M) (hW : zW_p s) {k f d kn o : Int32} (hfull : s 0 0 < 24) (hkn : kn = nI 0 ∨ kn = nI 1) : mm_Cal E mX4_add [.ref (E.1 4), .int k, .int f, .int d, .int kn, .int o] M (ret1 (.int (nI (s 0 0))) (mm_si (mm_si (mm_si (mm_si (mm_si (mm_si M 20 (upd (M.1 20) (s 0 0) k)) 21 (upd (M.1 21) (s 0 0) f)) 22 (upd (M.1 22) (s 0 0) d)) 24 (upd (M.1 24) (s 0 0) kn)) 23 (upd (M.1 23) (s 0 0) o)) 4 (upd (M.1 4) 5 (nI (s 0 0 + 1))))) := by
  have hn := hW.1
  refine jr_entry RX4 (by decide +kernel) (Nat.le_of_ble_eq_true rfl) (fun g hg => ?_)
  refine jr_lv (lv' := [(0, .ref (E.1 4)), (1, .int k), (2, .int f), (3, .int d), (4, .int kn), (5, .int o)]) [0, 1, 2, 3, 4, 5] rfl ?_
  refine jr_aload_n hg 0 rfl rfl dX4_add_0 ?_
  refine gf_X4_28 hg (hI 4 (by decide)) dX4_add_1 ?_
  refine jr_top (hR.1) ?_
  refine jr_bipush hg (nI 24) dX4_add_4 (by decide) ?_
  refine jr_icmp_ltN (tgt := 13) hg dX4_add_6 (by decide) (by omega) (by omega) (fun h6 => ?_) (fun h => by omega)
  refine jr_aload_n hg 0 rfl rfl dX4_add_13 ?_
  refine gf_X4_28 hg (hI 4 (by decide)) dX4_add_14 ?_
  refine jr_top (hR.1) ?_
  refine jr_istore hg dX4_add_17 (by decide) rfl ?_
  refine jr_aload_n hg 1 rfl rfl dX4_add_19 ?_
  refine gf_X4_9 hg (hI 4 (by decide)) dX4_add_20 ?_
  refine jr_iload hg 0 rfl dX4_add_23 ?_
  refine jr_iload_n hg 2 rfl rfl dX4_add_25 ?_
  refine jr_iastN hg (n := 24) (by omega) (by decide) (hI 20 (by decide)) (ac_20) dX4_add_26 ?_
  refine jr_aload_n hg 1 rfl rfl dX4_add_27 ?_
  refine gf_X4_15 hg (hI 4 (by decide)) dX4_add_28 ?_
  refine jr_iload hg 0 rfl dX4_add_31 ?_
  refine jr_iload_n hg 3 rfl rfl dX4_add_33 ?_
  refine jr_iastN hg (n := 24) (by omega) (by decide) (hI 21 (by decide)) (ac_21) dX4_add_34 ?_
  refine jr_aload_n hg 1 rfl rfl dX4_add_35 ?_
  refine gf_X4_18 hg (hI 4 (by decide)) dX4_add_36 ?_
  refine jr_iload hg 0 rfl dX4_add_39 ?_
  refine jr_iload_n hg 4 rfl rfl dX4_add_41 ?_
  refine jr_iastN hg (n := 24) (by omega) (by decide) (hI 22 (by decide)) (ac_22) dX4_add_42 ?_
  refine jr_aload_n hg 1 rfl rfl dX4_add_43 ?_
  refine gf_X4_24 hg (hI 4 (by decide)) dX4_add_44 ?_
  refine jr_iload hg 0 rfl dX4_add_47 ?_
  refine jr_iload hg 5 rfl dX4_add_49 ?_
  refine jr_zastN hg (by first | exact Or.inl rfl | exact Or.inr rfl | exact z01 _ | assumption) (n := 24) (by omega) (by decide) (hI 24 (by decide)) (ac_24) dX4_add_51 ?_
  refine jr_aload_n hg 1 rfl rfl dX4_add_52 ?_
  refine gf_X4_21 hg (hI 4 (by decide)) dX4_add_53 ?_
  refine jr_iload hg 0 rfl dX4_add_56 ?_
  refine jr_iload hg 6 rfl dX4_add_58 ?_
  refine jr_iastN hg (n := 24) (by omega) (by decide) (hI 23 (by decide)) (ac_23) dX4_add_60 ?_
  refine jr_aload_n hg 1 rfl rfl dX4_add_61 ?_
  refine jr_dup hg dX4_add_62 rfl ?_
  refine gf_X4_28 hg (hI 4 (by decide)) dX4_add_63 ?_
  refine jr_top (hR.1) ?_
  refine jr_iconst hg (nI 1) dX4_add_66 (by decide) ?_
  refine jr_iaddN hg dX4_add_67 ?_
  refine pf_X4_28 hg (hI 4 (by decide)) dX4_add_68 ?_
  refine jr_iload hg 0 rfl dX4_add_71 ?_
  exact jr_iret hg rfl dX4_add_73 (⟨rfl, rfl⟩)

set_option maxRecDepth 100000 in
theorem c_X2_size {E : mm_E} (hI : mm_FX E) {M : mm_M} {s : zS} (hR : zX_l s M) (hW : zW_l s) : mm_Cal E mX2_size [.ref (E.1 2)] M (ret1 (.int (nI (s 0 1))) M) := by
  have hn := hW.1
  refine jr_entry RX2 (by decide +kernel) (Nat.le_of_ble_eq_true rfl) (fun g hg => ?_)
  refine jr_lv (lv' := [(0, .ref (E.1 2))]) [0] rfl ?_
  refine jr_aload_n hg 0 rfl rfl dX2_size_0 ?_
  refine gf_X2_15 hg (hI 2 (by decide)) dX2_size_1 ?_
  refine jr_top (hR.1) ?_
  exact jr_iret hg rfl dX2_size_4 (⟨rfl, rfl⟩)

set_option maxRecDepth 100000 in
theorem c_X2_has_yes {E : mm_E} (hI : mm_FX E) {M : mm_M} {s : zS} (hR : zX_l s M) (hW : zW_l s) {j : Nat} (hj : j < s 0 1) : mm_Cal E mX2_has [.ref (E.1 2), .int (nI j)] M (ret1 (.int (nI 1)) M) := by
  have hn := hW.1
  refine jr_entry RX2 (by decide +kernel) (Nat.le_of_ble_eq_true rfl) (fun g hg => ?_)
  refine jr_lv (lv' := [(0, .ref (E.1 2)), (1, .int (nI j))]) [0, 1] rfl ?_
  refine jr_iload_n hg 1 rfl rfl dX2_has_0 ?_
  refine jr_if_ltN hg dX2_has_1 (tgt := 25) (by decide) (by omega) ?_
  refine jr_iload_n hg 1 rfl rfl dX2_has_4 ?_
  refine jr_aload_n hg 0 rfl rfl dX2_has_5 ?_
  refine gf_X2_15 hg (hI 2 (by decide)) dX2_has_6 ?_
  refine jr_top (hR.1) ?_
  refine jr_icmp_geN (tgt := 25) hg dX2_has_9 (by decide) (by omega) (by omega) (fun h => by omega) (fun h9 => ?_)
  refine jr_iload_n hg 1 rfl rfl dX2_has_12 ?_
  refine jr_aload_n hg 0 rfl rfl dX2_has_13 ?_
  refine gf_X2_9 hg (hI 2 (by decide)) dX2_has_14 ?_
  refine jr_alen hg (t0 := 0) (hI 11 (by decide)) (ac_11 _ _) rfl rfl dX2_has_17 ?_
  refine jr_icmp_geN (tgt := 25) hg dX2_has_18 (by decide) (by omega) (by omega) (fun h => by omega) (fun h18 => ?_)
  refine jr_iconst hg (nI 1) dX2_has_21 (by decide) ?_
  refine jr_goto (tgt := 26) hg dX2_has_22 (by decide) ?_
  exact jr_zret hg rfl (by first | exact Or.inl rfl | exact Or.inr rfl | exact z01 _) dX2_has_26 (⟨rfl, rfl⟩)

set_option maxRecDepth 100000 in
theorem c_X2_has_big {E : mm_E} (hI : mm_FX E) {M : mm_M} {s : zS} (hR : zX_l s M) (hW : zW_l s) {j : Nat} (hj : s 0 1 ≤ j) (hj2 : j < 2 ^ 31) : mm_Cal E mX2_has [.ref (E.1 2), .int (nI j)] M (ret1 (.int (nI 0)) M) := by
  have hn := hW.1
  refine jr_entry RX2 (by decide +kernel) (Nat.le_of_ble_eq_true rfl) (fun g hg => ?_)
  refine jr_lv (lv' := [(0, .ref (E.1 2)), (1, .int (nI j))]) [0, 1] rfl ?_
  refine jr_iload_n hg 1 rfl rfl dX2_has_0 ?_
  refine jr_if_ltN hg dX2_has_1 (tgt := 25) (by decide) (by omega) ?_
  refine jr_iload_n hg 1 rfl rfl dX2_has_4 ?_
  refine jr_aload_n hg 0 rfl rfl dX2_has_5 ?_
  refine gf_X2_15 hg (hI 2 (by decide)) dX2_has_6 ?_
  refine jr_top (hR.1) ?_
  refine jr_icmp_geN (tgt := 25) hg dX2_has_9 (by decide) (by omega) (by omega) (fun h9 => ?_) (fun h => by omega)
  refine jr_iconst hg (nI 0) dX2_has_25 (by decide) ?_
  exact jr_zret hg rfl (by first | exact Or.inl rfl | exact Or.inr rfl | exact z01 _) dX2_has_26 (⟨rfl, rfl⟩)

set_option maxRecDepth 100000 in
theorem c_X2_has_neg {E : mm_E} (hI : mm_FX E) {M : mm_M} {s : zS} (hR : zX_l s M) (hW : zW_l s) {x : Int32} (hx : x < 0) : mm_Cal E mX2_has [.ref (E.1 2), .int x] M (ret1 (.int (nI 0)) M) := by
  have hn := hW.1
  refine jr_entry RX2 (by decide +kernel) (Nat.le_of_ble_eq_true rfl) (fun g hg => ?_)
  refine jr_lv (lv' := [(0, .ref (E.1 2)), (1, .int x)]) [0, 1] rfl ?_
  refine jr_iload_n hg 1 rfl rfl dX2_has_0 ?_
  refine jr_if_lt (tgt := 25) hg dX2_has_1 (by decide) (fun h1 => ?_) (fun h => absurd hx h)
  refine jr_iconst hg (nI 0) dX2_has_25 (by decide) ?_
  exact jr_zret hg rfl (by first | exact Or.inl rfl | exact Or.inr rfl | exact z01 _) dX2_has_26 (⟨rfl, rfl⟩)

theorem c_X2_has {E : mm_E} (hI : mm_FX E) {M : mm_M} {s : zS} (hR : zX_l s M) (hW : zW_l s) (x : Int32) : mm_Cal E mX2_has [.ref (E.1 2), .int x] M (ret1 (.int (nI (zin x (s 0 1)).toNat)) M) := by
  have hn := hW.1
  rcases zcase x (s 0 1) with h | ⟨j, h, h2, rfl⟩ | ⟨j, h, h2, rfl⟩
  · rw [zin_neg h]; exact c_X2_has_neg hI hR hW h
  · rw [zin_t h (by omega)]; exact c_X2_has_yes hI hR hW h
  · rw [zin_f h h2]; exact c_X2_has_big hI hR hW h h2

set_option maxRecDepth 100000 in
theorem c_X2_sortOf {E : mm_E} (hI : mm_FX E) {M : mm_M} {s : zS} (hR : zX_l s M) (hW : zW_l s) {j : Nat} (hj : j < s 0 1) : mm_Cal E mX2_sortOf [.ref (E.1 2), .int (nI j)] M (ret1 (.int (nI (s 6 j))) M) := by
  have hn := hW.1
  refine jr_entry RX2 (by decide +kernel) (Nat.le_of_ble_eq_true rfl) (fun g hg => ?_)
  refine jr_lv (lv' := [(0, .ref (E.1 2)), (1, .int (nI j))]) [0, 1] rfl ?_
  refine jr_aload_n hg 0 rfl rfl dX2_sortOf_0 ?_
  refine jr_iload_n hg 1 rfl rfl dX2_sortOf_1 ?_
  refine jr_cV1v hg lk_X2_19 (hI 2 (by decide)) rfl rfl (by decide) (by decide) (Nat.le_of_ble_eq_true rfl) dX2_sortOf_2 (c_X2_has_yes hI hR hW hj) ?_
  refine jr_if_eqN (tgt := 17) hg dX2_sortOf_5 (by decide) (by omega) (fun h => by omega) (fun h5 => ?_)
  refine jr_aload_n hg 0 rfl rfl dX2_sortOf_8 ?_
  refine gf_X2_9 hg (hI 2 (by decide)) dX2_sortOf_9 ?_
  refine jr_iload_n hg 1 rfl rfl dX2_sortOf_12 ?_
  refine jr_ialdN hg (n := 8) (by omega) (by decide) (hI 11 (by decide)) (ac_11 _ _) dX2_sortOf_13 ?_
  refine jr_top ((hR.2 _ (by omega))) ?_
  refine jr_goto (tgt := 18) hg dX2_sortOf_14 (by decide) ?_
  exact jr_iret hg rfl dX2_sortOf_18 (⟨rfl, rfl⟩)

set_option maxRecDepth 100000 in
theorem c_X2_add_full {E : mm_E} (hI : mm_FX E) {M : mm_M} {s : zS} (hR : zX_l s M) (hW : zW_l s) {k : Int32} (hfull : s 0 1 = 8) : mm_Cal E mX2_add [.ref (E.1 2), .int k] M (ret1 (.int (-1004)) M) := by
  have hn := hW.1
  refine jr_entry RX2 (by decide +kernel) (Nat.le_of_ble_eq_true rfl) (fun g hg => ?_)
  refine jr_lv (lv' := [(0, .ref (E.1 2)), (1, .int k)]) [0, 1] rfl ?_
  refine jr_aload_n hg 0 rfl rfl dX2_add_0 ?_
  refine gf_X2_15 hg (hI 2 (by decide)) dX2_add_1 ?_
  refine jr_top (hR.1) ?_
  refine jr_aload_n hg 0 rfl rfl dX2_add_4 ?_
  refine gf_X2_9 hg (hI 2 (by decide)) dX2_add_5 ?_
  refine jr_alen hg (t0 := 0) (hI 11 (by decide)) (ac_11 _ _) rfl rfl dX2_add_8 ?_
  refine jr_icmp_ltN (tgt := 16) hg dX2_add_9 (by decide) (by omega) (by omega) (fun h => by omega) (fun h9 => ?_)
  refine jr_sipush hg (-1004) dX2_add_12 (by decide) ?_
  exact jr_iret hg rfl dX2_add_15 (⟨rfl, rfl⟩)

set_option maxRecDepth 100000 in
theorem c_X2_add {E : mm_E} (hI : mm_FX E) {M : mm_M} {s : zS} (hR : zX_l s M) (hW : zW_l s) {k : Int32} (hfull : s 0 1 < 8) : mm_Cal E mX2_add [.ref (E.1 2), .int k] M (ret1 (.int (nI (s 0 1))) (mm_si (mm_si M 11 (upd (M.1 11) (s 0 1) k)) 2 (upd (M.1 2) 1 (nI (s 0 1 + 1))))) := by
  have hn := hW.1
  refine jr_entry RX2 (by decide +kernel) (Nat.le_of_ble_eq_true rfl) (fun g hg => ?_)
  refine jr_lv (lv' := [(0, .ref (E.1 2)), (1, .int k)]) [0, 1] rfl ?_
  refine jr_aload_n hg 0 rfl rfl dX2_add_0 ?_
  refine gf_X2_15 hg (hI 2 (by decide)) dX2_add_1 ?_
  refine jr_top (hR.1) ?_
  refine jr_aload_n hg 0 rfl rfl dX2_add_4 ?_
  refine gf_X2_9 hg (hI 2 (by decide)) dX2_add_5 ?_
  refine jr_alen hg (t0 := 0) (hI 11 (by decide)) (ac_11 _ _) rfl rfl dX2_add_8 ?_
  refine jr_icmp_ltN (tgt := 16) hg dX2_add_9 (by decide) (by omega) (by omega) (fun h9 => ?_) (fun h => by omega)
  refine jr_aload_n hg 0 rfl rfl dX2_add_16 ?_
  refine gf_X2_9 hg (hI 2 (by decide)) dX2_add_17 ?_
  refine jr_aload_n hg 0 rfl rfl dX2_add_20 ?_
  refine gf_X2_15 hg (hI 2 (by decide)) dX2_add_21 ?_
  refine jr_top (hR.1) ?_
  refine jr_iload_n hg 1 rfl rfl dX2_add_24 ?_
  refine jr_iastN hg (n := 8) (by omega) (by decide) (hI 11 (by decide)) (ac_11) dX2_add_25 ?_
  refine jr_aload_n hg 0 rfl rfl dX2_add_26 ?_
  refine jr_dup hg dX2_add_27 rfl ?_
  refine gf_X2_15 hg (hI 2 (by decide)) dX2_add_28 ?_
  refine jr_top (hR.1) ?_
  refine jr_iconst hg (nI 1) dX2_add_31 (by decide) ?_
  refine jr_iaddN hg dX2_add_32 ?_
  refine pf_X2_15 hg (hI 2 (by decide)) dX2_add_33 ?_
  refine jr_aload_n hg 0 rfl rfl dX2_add_36 ?_
  refine gf_X2_15 hg (hI 2 (by decide)) dX2_add_37 ?_
  refine jr_top (show _ = nI (s 0 1 + 1) from rfl) ?_
  refine jr_iconst hg (nI 1) dX2_add_40 (by decide) ?_
  refine jr_isubN hg dX2_add_41 (by omega) ?_
  exact jr_iret hg rfl dX2_add_42 (⟨rfl, rfl⟩)

set_option maxRecDepth 100000 in
theorem c_X3_size {E : mm_E} (hI : mm_FX E) {M : mm_M} {s : zS} (hR : zX_k s M) (hW : zW_k s) : mm_Cal E mX3_size [.ref (E.1 3)] M (ret1 (.int (nI (s 0 2))) M) := by
  have hn := hW.1
  refine jr_entry RX3 (by decide +kernel) (Nat.le_of_ble_eq_true rfl) (fun g hg => ?_)
  refine jr_lv (lv' := [(0, .ref (E.1 3))]) [0] rfl ?_
  refine jr_aload_n hg 0 rfl rfl dX3_size_0 ?_
  refine gf_X3_37 hg (hI 3 (by decide)) dX3_size_1 ?_
  refine jr_top (hR.1) ?_
  exact jr_iret hg rfl dX3_size_4 (⟨rfl, rfl⟩)

set_option maxRecDepth 100000 in
theorem c_X3_isFull {E : mm_E} (hI : mm_FX E) {M : mm_M} {s : zS} (hR : zX_k s M) (hW : zW_k s) : mm_Cal E mX3_isFull [.ref (E.1 3)] M (ret1 (.int (nI (decide (200 ≤ s 0 2)).toNat)) M) := by
  have hn := hW.1
  refine jr_entry RX3 (by decide +kernel) (Nat.le_of_ble_eq_true rfl) (fun g hg => ?_)
  refine jr_lv (lv' := [(0, .ref (E.1 3))]) [0] rfl ?_
  refine jr_aload_n hg 0 rfl rfl dX3_isFull_0 ?_
  refine gf_X3_37 hg (hI 3 (by decide)) dX3_isFull_1 ?_
  refine jr_top (hR.1) ?_
  refine jr_sipush hg (nI 200) dX3_isFull_4 (by decide) ?_
  refine jr_icmp_ltN (tgt := 14) hg dX3_isFull_7 (by decide) (by omega) (by omega) (fun h7 => ?_) (fun h7 => ?_)
  · refine jr_iconst hg (nI 0) dX3_isFull_14 (by decide) ?_
    exact jr_zret hg rfl (by first | exact Or.inl rfl | exact Or.inr rfl | exact z01 _) dX3_isFull_15 (⟨by rw [decide_eq_false (by omega)]; rfl, rfl⟩)
  · refine jr_iconst hg (nI 1) dX3_isFull_10 (by decide) ?_
    refine jr_goto (tgt := 15) hg dX3_isFull_11 (by decide) ?_
    exact jr_zret hg rfl (by first | exact Or.inl rfl | exact Or.inr rfl | exact z01 _) dX3_isFull_15 (⟨by rw [decide_eq_true (by omega)]; rfl, rfl⟩)

set_option maxRecDepth 100000 in
theorem c_X3_has_yes {E : mm_E} (hI : mm_FX E) {M : mm_M} {s : zS} (hR : zX_k s M) (hW : zW_k s) {j : Nat} (hj : j < s 0 2) : mm_Cal E mX3_has [.ref (E.1 3), .int (nI j)] M (ret1 (.int (nI 1)) M) := by
  have hn := hW.1
  refine jr_entry RX3 (by decide +kernel) (Nat.le_of_ble_eq_true rfl) (fun g hg => ?_)
  refine jr_lv (lv' := [(0, .ref (E.1 3)), (1, .int (nI j))]) [0, 1] rfl ?_
  refine jr_iload_n hg 1 rfl rfl dX3_has_0 ?_
  refine jr_if_ltN hg dX3_has_1 (tgt := 23) (by decide) (by omega) ?_
  refine jr_iload_n hg 1 rfl rfl dX3_has_4 ?_
  refine jr_aload_n hg 0 rfl rfl dX3_has_5 ?_
  refine gf_X3_37 hg (hI 3 (by decide)) dX3_has_6 ?_
  refine jr_top (hR.1) ?_
  refine jr_icmp_geN (tgt := 23) hg dX3_has_9 (by decide) (by omega) (by omega) (fun h => by omega) (fun h9 => ?_)
  refine jr_iload_n hg 1 rfl rfl dX3_has_12 ?_
  refine jr_sipush hg (nI 200) dX3_has_13 (by decide) ?_
  refine jr_icmp_geN (tgt := 23) hg dX3_has_16 (by decide) (by omega) (by omega) (fun h => by omega) (fun h16 => ?_)
  refine jr_iconst hg (nI 1) dX3_has_19 (by decide) ?_
  refine jr_goto (tgt := 24) hg dX3_has_20 (by decide) ?_
  exact jr_zret hg rfl (by first | exact Or.inl rfl | exact Or.inr rfl | exact z01 _) dX3_has_24 (⟨rfl, rfl⟩)

set_option maxRecDepth 100000 in
theorem c_X3_has_big {E : mm_E} (hI : mm_FX E) {M : mm_M} {s : zS} (hR : zX_k s M) (hW : zW_k s) {j : Nat} (hj : s 0 2 ≤ j) (hj2 : j < 2 ^ 31) : mm_Cal E mX3_has [.ref (E.1 3), .int (nI j)] M (ret1 (.int (nI 0)) M) := by
  have hn := hW.1
  refine jr_entry RX3 (by decide +kernel) (Nat.le_of_ble_eq_true rfl) (fun g hg => ?_)
  refine jr_lv (lv' := [(0, .ref (E.1 3)), (1, .int (nI j))]) [0, 1] rfl ?_
  refine jr_iload_n hg 1 rfl rfl dX3_has_0 ?_
  refine jr_if_ltN hg dX3_has_1 (tgt := 23) (by decide) (by omega) ?_
  refine jr_iload_n hg 1 rfl rfl dX3_has_4 ?_
  refine jr_aload_n hg 0 rfl rfl dX3_has_5 ?_
  refine gf_X3_37 hg (hI 3 (by decide)) dX3_has_6 ?_
  refine jr_top (hR.1) ?_
  refine jr_icmp_geN (tgt := 23) hg dX3_has_9 (by decide) (by omega) (by omega) (fun h9 => ?_) (fun h => by omega)
  refine jr_iconst hg (nI 0) dX3_has_23 (by decide) ?_
  exact jr_zret hg rfl (by first | exact Or.inl rfl | exact Or.inr rfl | exact z01 _) dX3_has_24 (⟨rfl, rfl⟩)

set_option maxRecDepth 100000 in
theorem c_X3_has_neg {E : mm_E} (hI : mm_FX E) {M : mm_M} {s : zS} (hR : zX_k s M) (hW : zW_k s) {x : Int32} (hx : x < 0) : mm_Cal E mX3_has [.ref (E.1 3), .int x] M (ret1 (.int (nI 0)) M) := by
  have hn := hW.1
  refine jr_entry RX3 (by decide +kernel) (Nat.le_of_ble_eq_true rfl) (fun g hg => ?_)
  refine jr_lv (lv' := [(0, .ref (E.1 3)), (1, .int x)]) [0, 1] rfl ?_
  refine jr_iload_n hg 1 rfl rfl dX3_has_0 ?_
  refine jr_if_lt (tgt := 23) hg dX3_has_1 (by decide) (fun h1 => ?_) (fun h => absurd hx h)
  refine jr_iconst hg (nI 0) dX3_has_23 (by decide) ?_
  exact jr_zret hg rfl (by first | exact Or.inl rfl | exact Or.inr rfl | exact z01 _) dX3_has_24 (⟨rfl, rfl⟩)

theorem c_X3_has {E : mm_E} (hI : mm_FX E) {M : mm_M} {s : zS} (hR : zX_k s M) (hW : zW_k s) (x : Int32) : mm_Cal E mX3_has [.ref (E.1 3), .int x] M (ret1 (.int (nI (zin x (s 0 2)).toNat)) M) := by
  have hn := hW.1
  rcases zcase x (s 0 2) with h | ⟨j, h, h2, rfl⟩ | ⟨j, h, h2, rfl⟩
  · rw [zin_neg h]; exact c_X3_has_neg hI hR hW h
  · rw [zin_t h (by omega)]; exact c_X3_has_yes hI hR hW h
  · rw [zin_f h h2]; exact c_X3_has_big hI hR hW h h2

set_option maxRecDepth 100000 in
theorem c_X3_lookerOf {E : mm_E} (hI : mm_FX E) {M : mm_M} {s : zS} (hR : zX_k s M) (hW : zW_k s) {j : Nat} (hj : j < s 0 2) : mm_Cal E mX3_lookerOf [.ref (E.1 3), .int (nI j)] M (ret1 (.int (nI (s 7 j))) M) := by
  have hn := hW.1
  refine jr_entry RX3 (by decide +kernel) (Nat.le_of_ble_eq_true rfl) (fun g hg => ?_)
  refine jr_lv (lv' := [(0, .ref (E.1 3)), (1, .int (nI j))]) [0, 1] rfl ?_
  refine jr_aload_n hg 0 rfl rfl dX3_lookerOf_0 ?_
  refine jr_iload_n hg 1 rfl rfl dX3_lookerOf_1 ?_
  refine jr_cV1v hg lk_X3_49 (hI 3 (by decide)) rfl rfl (by decide) (by decide) (Nat.le_of_ble_eq_true rfl) dX3_lookerOf_2 (c_X3_has_yes hI hR hW hj) ?_
  refine jr_if_eqN (tgt := 17) hg dX3_lookerOf_5 (by decide) (by omega) (fun h => by omega) (fun h5 => ?_)
  refine jr_aload_n hg 0 rfl rfl dX3_lookerOf_8 ?_
  refine gf_X3_9 hg (hI 3 (by decide)) dX3_lookerOf_9 ?_
  refine jr_iload_n hg 1 rfl rfl dX3_lookerOf_12 ?_
  refine jr_ialdN hg (n := 200) (by omega) (by decide) (hI 12 (by decide)) (ac_12 _ _) dX3_lookerOf_13 ?_
  refine jr_top ((hR.2.1 _ (by omega)).1) ?_
  refine jr_goto (tgt := 18) hg dX3_lookerOf_14 (by decide) ?_
  exact jr_iret hg rfl dX3_lookerOf_18 (⟨rfl, rfl⟩)

set_option maxRecDepth 100000 in
theorem c_X3_pictureOf {E : mm_E} (hI : mm_FX E) {M : mm_M} {s : zS} (hR : zX_k s M) (hW : zW_k s) {j : Nat} (hj : j < s 0 2) : mm_Cal E mX3_pictureOf [.ref (E.1 3), .int (nI j)] M (ret1 (.int (nI (s 8 j))) M) := by
  have hn := hW.1
  refine jr_entry RX3 (by decide +kernel) (Nat.le_of_ble_eq_true rfl) (fun g hg => ?_)
  refine jr_lv (lv' := [(0, .ref (E.1 3)), (1, .int (nI j))]) [0, 1] rfl ?_
  refine jr_aload_n hg 0 rfl rfl dX3_pictureOf_0 ?_
  refine jr_iload_n hg 1 rfl rfl dX3_pictureOf_1 ?_
  refine jr_cV1v hg lk_X3_49 (hI 3 (by decide)) rfl rfl (by decide) (by decide) (Nat.le_of_ble_eq_true rfl) dX3_pictureOf_2 (c_X3_has_yes hI hR hW hj) ?_
  refine jr_if_eqN (tgt := 17) hg dX3_pictureOf_5 (by decide) (by omega) (fun h => by omega) (fun h5 => ?_)
  refine jr_aload_n hg 0 rfl rfl dX3_pictureOf_8 ?_
  refine gf_X3_15 hg (hI 3 (by decide)) dX3_pictureOf_9 ?_
  refine jr_iload_n hg 1 rfl rfl dX3_pictureOf_12 ?_
  refine jr_ialdN hg (n := 200) (by omega) (by decide) (hI 13 (by decide)) (ac_13 _ _) dX3_pictureOf_13 ?_
  refine jr_top ((hR.2.1 _ (by omega)).2.1) ?_
  refine jr_goto (tgt := 18) hg dX3_pictureOf_14 (by decide) ?_
  exact jr_iret hg rfl dX3_pictureOf_18 (⟨rfl, rfl⟩)

set_option maxRecDepth 100000 in
theorem c_X3_answerOf {E : mm_E} (hI : mm_FX E) {M : mm_M} {s : zS} (hR : zX_k s M) (hW : zW_k s) {j : Nat} (hj : j < s 0 2) : mm_Cal E mX3_answerOf [.ref (E.1 3), .int (nI j)] M (ret1 (.int (nI (s 9 j))) M) := by
  have hn := hW.1
  refine jr_entry RX3 (by decide +kernel) (Nat.le_of_ble_eq_true rfl) (fun g hg => ?_)
  refine jr_lv (lv' := [(0, .ref (E.1 3)), (1, .int (nI j))]) [0, 1] rfl ?_
  refine jr_aload_n hg 0 rfl rfl dX3_answerOf_0 ?_
  refine jr_iload_n hg 1 rfl rfl dX3_answerOf_1 ?_
  refine jr_cV1v hg lk_X3_49 (hI 3 (by decide)) rfl rfl (by decide) (by decide) (Nat.le_of_ble_eq_true rfl) dX3_answerOf_2 (c_X3_has_yes hI hR hW hj) ?_
  refine jr_if_eqN (tgt := 17) hg dX3_answerOf_5 (by decide) (by omega) (fun h => by omega) (fun h5 => ?_)
  refine jr_aload_n hg 0 rfl rfl dX3_answerOf_8 ?_
  refine gf_X3_18 hg (hI 3 (by decide)) dX3_answerOf_9 ?_
  refine jr_iload_n hg 1 rfl rfl dX3_answerOf_12 ?_
  refine jr_ialdN hg (n := 200) (by omega) (by decide) (hI 14 (by decide)) (ac_14 _ _) dX3_answerOf_13 ?_
  refine jr_top ((hR.2.1 _ (by omega)).2.2.1) ?_
  refine jr_goto (tgt := 18) hg dX3_answerOf_14 (by decide) ?_
  exact jr_iret hg rfl dX3_answerOf_18 (⟨rfl, rfl⟩)

set_option maxRecDepth 100000 in
theorem c_X3_counts {E : mm_E} (hI : mm_FX E) {M : mm_M} {s : zS} (hR : zX_k s M) (hW : zW_k s) {j : Nat} (hj : j < s 0 2) : mm_Cal E mX3_counts [.ref (E.1 3), .int (nI j)] M (ret1 (.int (nI (z_co s j).toNat)) M) := by
  have hn := hW.1
  refine jr_entry RX3 (by decide +kernel) (Nat.le_of_ble_eq_true rfl) (fun g hg => ?_)
  refine jr_lv (lv' := [(0, .ref (E.1 3)), (1, .int (nI j))]) [0, 1] rfl ?_
  refine jr_aload_n hg 0 rfl rfl dX3_counts_0 ?_
  refine jr_iload_n hg 1 rfl rfl dX3_counts_1 ?_
  refine jr_cV1v hg lk_X3_49 (hI 3 (by decide)) rfl rfl (by decide) (by decide) (Nat.le_of_ble_eq_true rfl) dX3_counts_2 (c_X3_has_yes hI hR hW hj) ?_
  refine jr_if_eqN (tgt := 21) hg dX3_counts_5 (by decide) (by omega) (fun h => by omega) (fun h5 => ?_)
  refine jr_aload_n hg 0 rfl rfl dX3_counts_8 ?_
  refine gf_X3_21 hg (hI 3 (by decide)) dX3_counts_9 ?_
  refine jr_iload_n hg 1 rfl rfl dX3_counts_12 ?_
  refine jr_zaldN hg (n := 200) (by omega) (by decide) (hI 15 (by decide)) (ac_15 _ _) dX3_counts_13 ?_
  refine jr_top ((hR.2.1 _ (by omega)).2.2.2) ?_
  refine jr_if_eqZ (tgt := 21) hg dX3_counts_14 (by decide) (fun h14 => ?_) (fun h14 => ?_)
  · refine jr_iconst hg (nI 0) dX3_counts_21 (by decide) ?_
    exact jr_zret hg rfl (by first | exact Or.inl rfl | exact Or.inr rfl | exact z01 _) dX3_counts_22 (⟨by rw [h14]; rfl, rfl⟩)
  · refine jr_iconst hg (nI 1) dX3_counts_17 (by decide) ?_
    refine jr_goto (tgt := 22) hg dX3_counts_18 (by decide) ?_
    exact jr_zret hg rfl (by first | exact Or.inl rfl | exact Or.inr rfl | exact z01 _) dX3_counts_22 (⟨by rw [h14]; rfl, rfl⟩)

set_option maxRecDepth 100000 in
theorem c_X3_isCell {E : mm_E} (hI : mm_FX E) {M : mm_M} {l p : Nat} (hl : l < 8) (hp : p < 24) : mm_Cal E mX3_isCell [.int (nI l), .int (nI p)] M (ret1 (.int (nI 1)) M) := by
  refine jr_entry RX3 (by decide +kernel) (Nat.le_of_ble_eq_true rfl) (fun g hg => ?_)
  refine jr_lv (lv' := [(0, .int (nI l)), (1, .int (nI p))]) [0, 1] rfl ?_
  refine jr_iload_n hg 0 rfl rfl dX3_isCell_0 ?_
  refine jr_if_ltN hg dX3_isCell_1 (tgt := 24) (by decide) (by omega) ?_
  refine jr_iload_n hg 0 rfl rfl dX3_isCell_4 ?_
  refine jr_bipush hg (nI 8) dX3_isCell_5 (by decide) ?_
  refine jr_icmp_geN (tgt := 24) hg dX3_isCell_7 (by decide) (by omega) (by omega) (fun h => by omega) (fun h7 => ?_)
  refine jr_iload_n hg 1 rfl rfl dX3_isCell_10 ?_
  refine jr_if_ltN hg dX3_isCell_11 (tgt := 24) (by decide) (by omega) ?_
  refine jr_iload_n hg 1 rfl rfl dX3_isCell_14 ?_
  refine jr_bipush hg (nI 24) dX3_isCell_15 (by decide) ?_
  refine jr_icmp_geN (tgt := 24) hg dX3_isCell_17 (by decide) (by omega) (by omega) (fun h => by omega) (fun h17 => ?_)
  refine jr_iconst hg (nI 1) dX3_isCell_20 (by decide) ?_
  refine jr_goto (tgt := 25) hg dX3_isCell_21 (by decide) ?_
  exact jr_zret hg rfl (by first | exact Or.inl rfl | exact Or.inr rfl | exact z01 _) dX3_isCell_25 (⟨rfl, rfl⟩)

set_option maxRecDepth 100000 in
theorem c_X3_answerAt {E : mm_E} (hI : mm_FX E) {M : mm_M} {s : zS} (hR : zX_k s M) (hW : zW_k s) {l p : Nat} (hl : l < 8) (hp : p < 24) : mm_Cal E mX3_answerAt [.ref (E.1 3), .int (nI l), .int (nI p)] M (ret1 (.int (zmv (z_an s l p))) M) := by
  have hn := hW.1
  refine jr_entry RX3 (by decide +kernel) (Nat.le_of_ble_eq_true rfl) (fun g hg => ?_)
  refine jr_lv (lv' := [(0, .ref (E.1 3)), (1, .int (nI l)), (2, .int (nI p))]) [0, 1, 2] rfl ?_
  refine jr_iload_n hg 1 rfl rfl dX3_answerAt_0 ?_
  refine jr_iload_n hg 2 rfl rfl dX3_answerAt_1 ?_
  refine jr_cS2v hg lk_X3_41 (by decide) (by decide) (Nat.le_of_ble_eq_true rfl) dX3_answerAt_2 (c_X3_isCell hI hl hp) ?_
  refine jr_if_eqN (tgt := 22) hg dX3_answerAt_5 (by decide) (by omega) (fun h => by omega) (fun h5 => ?_)
  refine jr_aload_n hg 0 rfl rfl dX3_answerAt_8 ?_
  refine gf_X3_25 hg (hI 3 (by decide)) dX3_answerAt_9 ?_
  refine jr_iload_n hg 1 rfl rfl dX3_answerAt_12 ?_
  refine jr_bipush hg (nI 24) dX3_answerAt_13 (by decide) ?_
  refine jr_imulN hg dX3_answerAt_15 ?_
  refine jr_iload_n hg 2 rfl rfl dX3_answerAt_16 ?_
  refine jr_iaddN hg dX3_answerAt_17 ?_
  refine jr_ialdN hg (n := 192) (by omega) (by decide) (hI 16 (by decide)) (ac_16 _ _) dX3_answerAt_18 ?_
  refine jr_top (hR.2.2.1 _ _ (by omega) (by omega)) ?_
  refine jr_goto (tgt := 23) hg dX3_answerAt_19 (by decide) ?_
  exact jr_iret hg rfl dX3_answerAt_23 (⟨rfl, rfl⟩)

set_option maxRecDepth 100000 in
theorem c_X3_howManyAt {E : mm_E} (hI : mm_FX E) {M : mm_M} {s : zS} (hR : zX_k s M) (hW : zW_k s) {p : Nat} (hp : p < 24) : mm_Cal E mX3_howManyAt [.ref (E.1 3), .int (nI p)] M (ret1 (.int (nI (zcnt (z_of s p) (s 0 2)))) M) := by
  have hn := hW.1
  refine jr_entry RX3 (by decide +kernel) (Nat.le_of_ble_eq_true rfl) (fun g hg => ?_)
  refine jr_lv (lv' := [(0, .ref (E.1 3)), (1, .int (nI p))]) [0, 1] rfl ?_
  refine jr_iload_n hg 1 rfl rfl dX3_howManyAt_0 ?_
  refine jr_if_ltN hg dX3_howManyAt_1 (tgt := 19) (by decide) (by omega) ?_
  refine jr_iload_n hg 1 rfl rfl dX3_howManyAt_4 ?_
  refine jr_bipush hg (nI 24) dX3_howManyAt_5 (by decide) ?_
  refine jr_icmp_geN (tgt := 19) hg dX3_howManyAt_7 (by decide) (by omega) (by omega) (fun h => by omega) (fun h7 => ?_)
  refine jr_aload_n hg 0 rfl rfl dX3_howManyAt_10 ?_
  refine gf_X3_28 hg (hI 3 (by decide)) dX3_howManyAt_11 ?_
  refine jr_iload_n hg 1 rfl rfl dX3_howManyAt_14 ?_
  refine jr_ialdN hg (n := 24) (by omega) (by decide) (hI 17 (by decide)) (ac_17 _ _) dX3_howManyAt_15 ?_
  refine jr_top ((hR.2.2.2.1 _ (by omega)).1) ?_
  refine jr_goto (tgt := 20) hg dX3_howManyAt_16 (by decide) ?_
  exact jr_iret hg rfl dX3_howManyAt_20 (⟨rfl, rfl⟩)

set_option maxRecDepth 100000 in
theorem c_X3_greensAt {E : mm_E} (hI : mm_FX E) {M : mm_M} {s : zS} (hR : zX_k s M) (hW : zW_k s) {p : Nat} (hp : p < 24) : mm_Cal E mX3_greensAt [.ref (E.1 3), .int (nI p)] M (ret1 (.int (nI (zcnt (z_gr s p) (s 0 2)))) M) := by
  have hn := hW.1
  refine jr_entry RX3 (by decide +kernel) (Nat.le_of_ble_eq_true rfl) (fun g hg => ?_)
  refine jr_lv (lv' := [(0, .ref (E.1 3)), (1, .int (nI p))]) [0, 1] rfl ?_
  refine jr_iload_n hg 1 rfl rfl dX3_greensAt_0 ?_
  refine jr_if_ltN hg dX3_greensAt_1 (tgt := 19) (by decide) (by omega) ?_
  refine jr_iload_n hg 1 rfl rfl dX3_greensAt_4 ?_
  refine jr_bipush hg (nI 24) dX3_greensAt_5 (by decide) ?_
  refine jr_icmp_geN (tgt := 19) hg dX3_greensAt_7 (by decide) (by omega) (by omega) (fun h => by omega) (fun h7 => ?_)
  refine jr_aload_n hg 0 rfl rfl dX3_greensAt_10 ?_
  refine gf_X3_31 hg (hI 3 (by decide)) dX3_greensAt_11 ?_
  refine jr_iload_n hg 1 rfl rfl dX3_greensAt_14 ?_
  refine jr_ialdN hg (n := 24) (by omega) (by decide) (hI 18 (by decide)) (ac_18 _ _) dX3_greensAt_15 ?_
  refine jr_top ((hR.2.2.2.1 _ (by omega)).2) ?_
  refine jr_goto (tgt := 20) hg dX3_greensAt_16 (by decide) ?_
  exact jr_iret hg rfl dX3_greensAt_20 (⟨rfl, rfl⟩)

set_option maxRecDepth 100000 in
theorem c_X3_howManyBy {E : mm_E} (hI : mm_FX E) {M : mm_M} {s : zS} (hR : zX_k s M) (hW : zW_k s) {p : Nat} (hp : p < 8) : mm_Cal E mX3_howManyBy [.ref (E.1 3), .int (nI p)] M (ret1 (.int (nI (zcnt (z_by s p) (s 0 2)))) M) := by
  have hn := hW.1
  refine jr_entry RX3 (by decide +kernel) (Nat.le_of_ble_eq_true rfl) (fun g hg => ?_)
  refine jr_lv (lv' := [(0, .ref (E.1 3)), (1, .int (nI p))]) [0, 1] rfl ?_
  refine jr_iload_n hg 1 rfl rfl dX3_howManyBy_0 ?_
  refine jr_if_ltN hg dX3_howManyBy_1 (tgt := 19) (by decide) (by omega) ?_
  refine jr_iload_n hg 1 rfl rfl dX3_howManyBy_4 ?_
  refine jr_bipush hg (nI 8) dX3_howManyBy_5 (by decide) ?_
  refine jr_icmp_geN (tgt := 19) hg dX3_howManyBy_7 (by decide) (by omega) (by omega) (fun h => by omega) (fun h7 => ?_)
  refine jr_aload_n hg 0 rfl rfl dX3_howManyBy_10 ?_
  refine gf_X3_34 hg (hI 3 (by decide)) dX3_howManyBy_11 ?_
  refine jr_iload_n hg 1 rfl rfl dX3_howManyBy_14 ?_
  refine jr_ialdN hg (n := 8) (by omega) (by decide) (hI 19 (by decide)) (ac_19 _ _) dX3_howManyBy_15 ?_
  refine jr_top (hR.2.2.2.2 _ (by omega)) ?_
  refine jr_goto (tgt := 20) hg dX3_howManyBy_16 (by decide) ?_
  exact jr_iret hg rfl dX3_howManyBy_20 (⟨rfl, rfl⟩)
