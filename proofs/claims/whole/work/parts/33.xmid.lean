theorem zW_w100 {s : zS} (h : zW_w s) : ∀ j, j < 8 → s 10 j ≤ 100 := by
  intro j hj
  have h1 := (h j hj).2
  have h2 : zhi j ≤ 100 := (by decide : ∀ j, j < 8 → zhi j ≤ 100) j hj
  omega
theorem z_go_le {s : zS} (h : zW_o s) {p : Nat} (hp : p < 24) : z_go s p ≤ 1000 := by
  have a := h.1 (3 * p) (by omega)
  have b := h.1 (3 * p + 1) (by omega)
  have c := h.1 (3 * p + 2) (by omega)
  rw [z_go]; omega
theorem zmv_dec (k : Nat) : nI k + Int32.ofInt (-1) = zmv k := by
  cases k with
  | zero => decide
  | succ k => rw [zmv_s]; exact pk_m1 k
theorem zmv_sub1 (n : Nat) : nI n - nI 1 = zmv n := by
  cases n with
  | zero => decide
  | succ n => rw [zmv_s, pk_sub (by omega)]; rfl
theorem nI_ne_m1 {b : Nat} (h : b < 2 ^ 31) : ¬ nI b = -1 := by
  intro e
  have := nI_pos h
  rw [e] at this
  exact this zm1
theorem z_an_le {s : zS} (h : zW_k s) (l p : Nat) : z_an s l p ≤ 4 := by
  have hf := zfind_le (z_at s l p) (s 0 2)
  by_cases e : zfind (z_at s l p) (s 0 2) = 0
  · simp [z_an, e]
  · have := (h.2.1 (zfind (z_at s l p) (s 0 2) - 1) (by omega)).2.2
    simp only [z_an, if_neg e]; omega

set_option maxRecDepth 100000 in
theorem c_X6_rounds {E : mm_E} (hI : mm_FX E) {M : mm_M} {s : zS} (hR : zX_o s M) (hW : zW_o s) : mm_Cal E mX6_rounds [.ref (E.1 6)] M (ret1 (.int (nI (s 0 5))) M) := by
  refine jr_entry RX6 (by decide +kernel) (Nat.le_of_ble_eq_true rfl) (fun g hg => ?_)
  refine jr_lv (lv' := [(0, .ref (E.1 6))]) [0] rfl ?_
  refine jr_aload_n hg 0 rfl rfl dX6_rounds_0 ?_
  refine gf_X6_31 hg (hI 6 (by decide)) dX6_rounds_1 ?_
  refine jr_top (hR.2.2.2) ?_
  exact jr_iret hg rfl dX6_rounds_4 (⟨rfl, rfl⟩)

set_option maxRecDepth 100000 in
theorem c_X6_isOddsCell {E : mm_E} (hI : mm_FX E) {M : mm_M} {p k : Nat} (hp : p < 24) (hk : k < 3) : mm_Cal E mX6_isOddsCell [.int (nI p), .int (nI k)] M (ret1 (.int (nI 1)) M) := by
  refine jr_entry RX6 (by decide +kernel) (Nat.le_of_ble_eq_true rfl) (fun g hg => ?_)
  refine jr_lv (lv' := [(0, .int (nI p)), (1, .int (nI k))]) [0, 1] rfl ?_
  refine jr_iload_n hg 0 rfl rfl dX6_isOddsCell_0 ?_
  refine jr_if_ltN hg dX6_isOddsCell_1 (tgt := 23) (by decide) (by omega) ?_
  refine jr_iload_n hg 0 rfl rfl dX6_isOddsCell_4 ?_
  refine jr_bipush hg (nI 24) dX6_isOddsCell_5 (by decide) ?_
  refine jr_icmp_geN (tgt := 23) hg dX6_isOddsCell_7 (by decide) (by omega) (by omega) (fun h => by omega) (fun h7 => ?_)
  refine jr_iload_n hg 1 rfl rfl dX6_isOddsCell_10 ?_
  refine jr_if_ltN hg dX6_isOddsCell_11 (tgt := 23) (by decide) (by omega) ?_
  refine jr_iload_n hg 1 rfl rfl dX6_isOddsCell_14 ?_
  refine jr_iconst hg (nI 3) dX6_isOddsCell_15 (by decide) ?_
  refine jr_icmp_geN (tgt := 23) hg dX6_isOddsCell_16 (by decide) (by omega) (by omega) (fun h => by omega) (fun h16 => ?_)
  refine jr_iconst hg (nI 1) dX6_isOddsCell_19 (by decide) ?_
  refine jr_goto (tgt := 24) hg dX6_isOddsCell_20 (by decide) ?_
  exact jr_zret hg rfl (by first | exact Or.inl rfl | exact Or.inr rfl | exact z01 _) dX6_isOddsCell_24 (⟨rfl, rfl⟩)

set_option maxRecDepth 100000 in
theorem c_X6_isTableCell {E : mm_E} (hI : mm_FX E) {M : mm_M} {l k a : Nat} (hl : l < 8) (hk : k < 3) (ha : a < 4) : mm_Cal E mX6_isTableCell [.int (nI l), .int (nI k), .int (nI a)] M (ret1 (.int (nI 1)) M) := by
  refine jr_entry RX6 (by decide +kernel) (Nat.le_of_ble_eq_true rfl) (fun g hg => ?_)
  refine jr_lv (lv' := [(0, .int (nI l)), (1, .int (nI k)), (2, .int (nI a))]) [0, 1, 2] rfl ?_
  refine jr_iload_n hg 0 rfl rfl dX6_isTableCell_0 ?_
  refine jr_if_ltN hg dX6_isTableCell_1 (tgt := 32) (by decide) (by omega) ?_
  refine jr_iload_n hg 0 rfl rfl dX6_isTableCell_4 ?_
  refine jr_bipush hg (nI 8) dX6_isTableCell_5 (by decide) ?_
  refine jr_icmp_geN (tgt := 32) hg dX6_isTableCell_7 (by decide) (by omega) (by omega) (fun h => by omega) (fun h7 => ?_)
  refine jr_iload_n hg 1 rfl rfl dX6_isTableCell_10 ?_
  refine jr_if_ltN hg dX6_isTableCell_11 (tgt := 32) (by decide) (by omega) ?_
  refine jr_iload_n hg 1 rfl rfl dX6_isTableCell_14 ?_
  refine jr_iconst hg (nI 3) dX6_isTableCell_15 (by decide) ?_
  refine jr_icmp_geN (tgt := 32) hg dX6_isTableCell_16 (by decide) (by omega) (by omega) (fun h => by omega) (fun h16 => ?_)
  refine jr_iload_n hg 2 rfl rfl dX6_isTableCell_19 ?_
  refine jr_if_ltN hg dX6_isTableCell_20 (tgt := 32) (by decide) (by omega) ?_
  refine jr_iload_n hg 2 rfl rfl dX6_isTableCell_23 ?_
  refine jr_iconst hg (nI 4) dX6_isTableCell_24 (by decide) ?_
  refine jr_icmp_geN (tgt := 32) hg dX6_isTableCell_25 (by decide) (by omega) (by omega) (fun h => by omega) (fun h25 => ?_)
  refine jr_iconst hg (nI 1) dX6_isTableCell_28 (by decide) ?_
  refine jr_goto (tgt := 33) hg dX6_isTableCell_29 (by decide) ?_
  exact jr_zret hg rfl (by first | exact Or.inl rfl | exact Or.inr rfl | exact z01 _) dX6_isTableCell_33 (⟨rfl, rfl⟩)

set_option maxRecDepth 100000 in
theorem c_X6_tableCell {E : mm_E} (hI : mm_FX E) {M : mm_M} {l k a : Nat} : mm_Cal E mX6_tableCell [.int (nI l), .int (nI k), .int (nI a)] M (ret1 (.int (nI (12 * l + 4 * k + a))) M) := by
  refine jr_entry RX6 (by decide +kernel) (Nat.le_of_ble_eq_true rfl) (fun g hg => ?_)
  refine jr_lv (lv' := [(0, .int (nI l)), (1, .int (nI k)), (2, .int (nI a))]) [0, 1, 2] rfl ?_
  refine jr_iload_n hg 0 rfl rfl dX6_tableCell_0 ?_
  refine jr_iconst hg (nI 3) dX6_tableCell_1 (by decide) ?_
  refine jr_imulN hg dX6_tableCell_2 ?_
  refine jr_iload_n hg 1 rfl rfl dX6_tableCell_3 ?_
  refine jr_iaddN hg dX6_tableCell_4 ?_
  refine jr_iconst hg (nI 4) dX6_tableCell_5 (by decide) ?_
  refine jr_imulN hg dX6_tableCell_6 ?_
  refine jr_iload_n hg 2 rfl rfl dX6_tableCell_7 ?_
  refine jr_iaddN hg dX6_tableCell_8 ?_
  exact jr_iret hg rfl dX6_tableCell_9 (⟨by rw [show (l * 3 + k) * 4 + a = 12 * l + 4 * k + a by omega], rfl⟩)

set_option maxRecDepth 100000 in
theorem c_X6_oddsOf {E : mm_E} (hI : mm_FX E) {M : mm_M} {s : zS} (hR : zX_o s M) (hW : zW_o s) {p k : Nat} (hp : p < 24) (hk : k < 3) : mm_Cal E mX6_oddsOf [.ref (E.1 6), .int (nI p), .int (nI k)] M (ret1 (.int (nI (s 12 (3 * p + k)))) M) := by
  refine jr_entry RX6 (by decide +kernel) (Nat.le_of_ble_eq_true rfl) (fun g hg => ?_)
  refine jr_lv (lv' := [(0, .ref (E.1 6)), (1, .int (nI p)), (2, .int (nI k))]) [0, 1, 2] rfl ?_
  refine jr_iload_n hg 1 rfl rfl dX6_oddsOf_0 ?_
  refine jr_iload_n hg 2 rfl rfl dX6_oddsOf_1 ?_
  refine jr_cS2v hg lk_X6_35 (by decide) (by decide) (Nat.le_of_ble_eq_true rfl) dX6_oddsOf_2 (c_X6_isOddsCell hI hp hk) ?_
  refine jr_if_eqN (tgt := 21) hg dX6_oddsOf_5 (by decide) (by omega) (fun h => by omega) (fun h5 => ?_)
  refine jr_aload_n hg 0 rfl rfl dX6_oddsOf_8 ?_
  refine gf_X6_9 hg (hI 6 (by decide)) dX6_oddsOf_9 ?_
  refine jr_iload_n hg 1 rfl rfl dX6_oddsOf_12 ?_
  refine jr_iconst hg (nI 3) dX6_oddsOf_13 (by decide) ?_
  refine jr_imulN hg dX6_oddsOf_14 ?_
  refine jr_iload_n hg 2 rfl rfl dX6_oddsOf_15 ?_
  refine jr_iaddN hg dX6_oddsOf_16 ?_
  refine jr_ialdN hg (n := 72) (by omega) (by decide) (hI 30 (by decide)) (ac_30 _ _) dX6_oddsOf_17 ?_
  refine jr_top (zcv hR.1 (show p * 3 + k = 3 * p + k by omega) (by omega)) ?_
  refine jr_goto (tgt := 22) hg dX6_oddsOf_18 (by decide) ?_
  exact jr_iret hg rfl dX6_oddsOf_22 (⟨rfl, rfl⟩)

set_option maxRecDepth 100000 in
theorem c_X6_tableOf {E : mm_E} (hI : mm_FX E) {M : mm_M} {s : zS} (hR : zX_o s M) (hW : zW_o s) {l k a : Nat} (hl : l < 8) (hk : k < 3) (ha : a < 4) : mm_Cal E mX6_tableOf [.ref (E.1 6), .int (nI l), .int (nI k), .int (nI a)] M (ret1 (.int (nI (s 13 (12 * l + 4 * k + a)))) M) := by
  refine jr_entry RX6 (by decide +kernel) (Nat.le_of_ble_eq_true rfl) (fun g hg => ?_)
  refine jr_lv (lv' := [(0, .ref (E.1 6)), (1, .int (nI l)), (2, .int (nI k)), (3, .int (nI a))]) [0, 1, 2, 3] rfl ?_
  refine jr_iload_n hg 1 rfl rfl dX6_tableOf_0 ?_
  refine jr_iload_n hg 2 rfl rfl dX6_tableOf_1 ?_
  refine jr_iload_n hg 3 rfl rfl dX6_tableOf_2 ?_
  refine jr_cS3v hg lk_X6_45 (by decide) (by decide) (Nat.le_of_ble_eq_true rfl) dX6_tableOf_3 (c_X6_isTableCell hI hl hk ha) ?_
  refine jr_if_eqN (tgt := 23) hg dX6_tableOf_6 (by decide) (by omega) (fun h => by omega) (fun h6 => ?_)
  refine jr_aload_n hg 0 rfl rfl dX6_tableOf_9 ?_
  refine gf_X6_15 hg (hI 6 (by decide)) dX6_tableOf_10 ?_
  refine jr_iload_n hg 1 rfl rfl dX6_tableOf_13 ?_
  refine jr_iload_n hg 2 rfl rfl dX6_tableOf_14 ?_
  refine jr_iload_n hg 3 rfl rfl dX6_tableOf_15 ?_
  refine jr_cS3v hg lk_X6_49 (by decide) (by decide) (Nat.le_of_ble_eq_true rfl) dX6_tableOf_16 (c_X6_tableCell hI) ?_
  refine jr_ialdN hg (n := 96) (by omega) (by decide) (hI 31 (by decide)) (ac_31 _ _) dX6_tableOf_19 ?_
  refine jr_top (hR.2.1 _ (by omega)) ?_
  refine jr_goto (tgt := 24) hg dX6_tableOf_20 (by decide) ?_
  exact jr_iret hg rfl dX6_tableOf_24 (⟨rfl, rfl⟩)

set_option maxRecDepth 100000 in
theorem c_X6_skyOf {E : mm_E} (hI : mm_FX E) {M : mm_M} {s : zS} (hR : zX_o s M) (hW : zW_o s) {k : Nat} (hk : k < 3) : mm_Cal E mX6_skyOf [.ref (E.1 6), .int (nI k)] M (ret1 (.int (nI (s 14 k))) M) := by
  refine jr_entry RX6 (by decide +kernel) (Nat.le_of_ble_eq_true rfl) (fun g hg => ?_)
  refine jr_lv (lv' := [(0, .ref (E.1 6)), (1, .int (nI k))]) [0, 1] rfl ?_
  refine jr_iload_n hg 1 rfl rfl dX6_skyOf_0 ?_
  refine jr_if_ltN hg dX6_skyOf_1 (tgt := 22) (by decide) (by omega) ?_
  refine jr_iload_n hg 1 rfl rfl dX6_skyOf_4 ?_
  refine jr_aload_n hg 0 rfl rfl dX6_skyOf_5 ?_
  refine gf_X6_18 hg (hI 6 (by decide)) dX6_skyOf_6 ?_
  refine jr_alen hg (t0 := 0) (hI 32 (by decide)) (ac_32 _ _) rfl rfl dX6_skyOf_9 ?_
  refine jr_icmp_geN (tgt := 22) hg dX6_skyOf_10 (by decide) (by omega) (by omega) (fun h => by omega) (fun h10 => ?_)
  refine jr_aload_n hg 0 rfl rfl dX6_skyOf_13 ?_
  refine gf_X6_18 hg (hI 6 (by decide)) dX6_skyOf_14 ?_
  refine jr_iload_n hg 1 rfl rfl dX6_skyOf_17 ?_
  refine jr_ialdN hg (n := 3) (by omega) (by decide) (hI 32 (by decide)) (ac_32 _ _) dX6_skyOf_18 ?_
  refine jr_top (hR.2.2.1 _ (by omega)) ?_
  refine jr_goto (tgt := 23) hg dX6_skyOf_19 (by decide) ?_
  exact jr_iret hg rfl dX6_skyOf_23 (⟨rfl, rfl⟩)

set_option maxRecDepth 100000 in
theorem c_X6_greatestOddsOf {E : mm_E} (hI : mm_FX E) {M : mm_M} {s : zS} (hR : zX_o s M) (hW : zW_o s) {p : Nat} (hp : p < 24) : mm_Cal E mX6_greatestOddsOf [.ref (E.1 6), .int (nI p)] M (ret1 (.int (nI (z_go s p))) M) := by
  have a0 := hW.1 (3 * p) (by omega)
  have a1 := hW.1 (3 * p + 1) (by omega)
  have a2 := hW.1 (3 * p + 2) (by omega)
  refine jr_entry RX6 (by decide +kernel) (Nat.le_of_ble_eq_true rfl) (fun g hg => ?_)
  refine jr_lv (lv' := [(0, .ref (E.1 6)), (1, .int (nI p))]) [0, 1] rfl ?_
  refine jr_iload_n hg 1 rfl rfl dX6_greatestOddsOf_0 ?_
  refine jr_iconst hg (nI 2) dX6_greatestOddsOf_1 (by decide) ?_
  refine jr_cS2v hg lk_X6_35 (by decide) (by decide) (Nat.le_of_ble_eq_true rfl) dX6_greatestOddsOf_2 (c_X6_isOddsCell hI hp (by decide)) ?_
  refine jr_if_neN (tgt := 10) hg dX6_greatestOddsOf_5 (by decide) (by omega) (fun h5 => ?_) (fun h => by omega)
  refine jr_iload_n hg 1 rfl rfl dX6_greatestOddsOf_10 ?_
  refine jr_iconst hg (nI 3) dX6_greatestOddsOf_11 (by decide) ?_
  refine jr_imulN hg dX6_greatestOddsOf_12 ?_
  refine jr_istore_n hg dX6_greatestOddsOf_13 rfl (by decide) rfl ?_
  refine jr_aload_n hg 1 rfl rfl dX6_greatestOddsOf_14 ?_
  refine gf_X6_9 hg (hI 6 (by decide)) dX6_greatestOddsOf_15 ?_
  refine jr_iload_n hg 0 rfl rfl dX6_greatestOddsOf_18 ?_
  refine jr_iconst hg (nI 0) dX6_greatestOddsOf_19 (by decide) ?_
  refine jr_iaddN hg dX6_greatestOddsOf_20 ?_
  refine jr_ialdN hg (n := 72) (by omega) (by decide) (hI 30 (by decide)) (ac_30 _ _) dX6_greatestOddsOf_21 ?_
  refine jr_top (zcv hR.1 (show p * 3 + 0 = 3 * p by omega) (by omega)) ?_
  refine jr_aload_n hg 1 rfl rfl dX6_greatestOddsOf_22 ?_
  refine gf_X6_9 hg (hI 6 (by decide)) dX6_greatestOddsOf_23 ?_
  refine jr_iload_n hg 0 rfl rfl dX6_greatestOddsOf_26 ?_
  refine jr_iconst hg (nI 1) dX6_greatestOddsOf_27 (by decide) ?_
  refine jr_iaddN hg dX6_greatestOddsOf_28 ?_
  refine jr_ialdN hg (n := 72) (by omega) (by decide) (hI 30 (by decide)) (ac_30 _ _) dX6_greatestOddsOf_29 ?_
  refine jr_top (zcv hR.1 (show p * 3 + 1 = 3 * p + 1 by omega) (by omega)) ?_
  refine jr_aload_n hg 1 rfl rfl dX6_greatestOddsOf_30 ?_
  refine gf_X6_9 hg (hI 6 (by decide)) dX6_greatestOddsOf_31 ?_
  refine jr_iload_n hg 0 rfl rfl dX6_greatestOddsOf_34 ?_
  refine jr_iconst hg (nI 2) dX6_greatestOddsOf_35 (by decide) ?_
  refine jr_iaddN hg dX6_greatestOddsOf_36 ?_
  refine jr_ialdN hg (n := 72) (by omega) (by decide) (hI 30 (by decide)) (ac_30 _ _) dX6_greatestOddsOf_37 ?_
  refine jr_top (zcv hR.1 (show p * 3 + 2 = 3 * p + 2 by omega) (by omega)) ?_
  refine jr_max hg wm_20_10 (by decide) (Nat.le_of_ble_eq_true rfl) dX6_greatestOddsOf_38 wm_20_11 wm_20_12 wm_20_13 ?_
  refine jr_top (zmaxI (by omega) (by omega)) ?_
  refine jr_max hg wm_20_10 (by decide) (Nat.le_of_ble_eq_true rfl) dX6_greatestOddsOf_41 wm_20_11 wm_20_12 wm_20_13 ?_
  refine jr_top (zmaxI (by omega) (by omega)) ?_
  exact jr_iret hg rfl dX6_greatestOddsOf_44 (⟨rfl, rfl⟩)

set_option maxRecDepth 100000 in
theorem c_X1_valueOf {E : mm_E} (hI : mm_FX E) {M : mm_M} {s : zS} (hR : zX_w s M) {j : Nat} (hj : j < 8) : mm_Cal E mX1_valueOf [.ref (E.1 1), .int (nI j)] M (ret1 (.int (nI (s 10 j))) M) := by
  refine jr_entry RX1 (by decide +kernel) (Nat.le_of_ble_eq_true rfl) (fun g hg => ?_)
  refine jr_lv (lv' := [(0, .ref (E.1 1)), (1, .int (nI j))]) [0, 1] rfl ?_
  refine jr_iload_n hg 1 rfl rfl dX1_valueOf_0 ?_
  refine jr_if_ltN hg dX1_valueOf_1 (tgt := 22) (by decide) (by omega) ?_
  refine jr_iload_n hg 1 rfl rfl dX1_valueOf_4 ?_
  refine jr_aload_n hg 0 rfl rfl dX1_valueOf_5 ?_
  refine gf_X1_9 hg (hI 1 (by decide)) dX1_valueOf_6 ?_
  refine jr_alen hg (t0 := 0) (hI 8 (by decide)) (ac_8 _ _) rfl rfl dX1_valueOf_9 ?_
  refine jr_icmp_geN (tgt := 22) hg dX1_valueOf_10 (by decide) (by omega) (by omega) (fun h => by omega) (fun h10 => ?_)
  refine jr_aload_n hg 0 rfl rfl dX1_valueOf_13 ?_
  refine gf_X1_9 hg (hI 1 (by decide)) dX1_valueOf_14 ?_
  refine jr_iload_n hg 1 rfl rfl dX1_valueOf_17 ?_
  refine jr_ialdN hg (n := 8) (by omega) (by decide) (hI 8 (by decide)) (ac_8 _ _) dX1_valueOf_18 ?_
  refine jr_top (hR _ (by omega)) ?_
  refine jr_goto (tgt := 23) hg dX1_valueOf_19 (by decide) ?_
  exact jr_iret hg rfl dX1_valueOf_23 (⟨rfl, rfl⟩)

set_option maxRecDepth 100000 in
theorem c_X1_textSize {E : mm_E} (hI : mm_FX E) {M : mm_M} {s : zS} (hR : zX_t s M) (hW : zW_t s) : mm_Cal E mX1_textSize [.ref (E.1 1)] M (ret1 (.int (nI (s 0 4))) M) := by
  refine jr_entry RX1 (by decide +kernel) (Nat.le_of_ble_eq_true rfl) (fun g hg => ?_)
  refine jr_lv (lv' := [(0, .ref (E.1 1))]) [0] rfl ?_
  refine jr_aload_n hg 0 rfl rfl dX1_textSize_0 ?_
  refine gf_X1_34 hg (hI 1 (by decide)) dX1_textSize_1 ?_
  refine jr_top (hR.1) ?_
  exact jr_iret hg rfl dX1_textSize_4 (⟨rfl, rfl⟩)

set_option maxRecDepth 100000 in
theorem c_X1_faultPlace {E : mm_E} (hI : mm_FX E) {M : mm_M} {s : zS} (hR : zX_t s M) (hW : zW_t s) : mm_Cal E mX1_faultPlace [.ref (E.1 1)] M (ret1 (.int (zmv (s 0 7))) M) := by
  refine jr_entry RX1 (by decide +kernel) (Nat.le_of_ble_eq_true rfl) (fun g hg => ?_)
  refine jr_lv (lv' := [(0, .ref (E.1 1))]) [0] rfl ?_
  refine jr_aload_n hg 0 rfl rfl dX1_faultPlace_0 ?_
  refine gf_X1_30 hg (hI 1 (by decide)) dX1_faultPlace_1 ?_
  refine jr_top (hR.2.2) ?_
  exact jr_iret hg rfl dX1_faultPlace_4 (⟨rfl, rfl⟩)

def zseedM (M : mm_M) (d : Nat) : mm_M := mm_sl M 0 (vp_updL (M.2 0) 0 (lN d))
theorem zseedM_2 (M : mm_M) (a b : Nat) : zseedM (zseedM M a) b = zseedM M b := by
  refine Prod.ext rfl ?_
  funext c
  show (if c = 0 then vp_updL (if 0 = 0 then vp_updL (M.2 0) 0 (lN a) else M.2 0) 0 (lN b) else if c = 0 then vp_updL (M.2 0) 0 (lN a) else M.2 c) = if c = 0 then vp_updL (M.2 0) 0 (lN b) else M.2 c
  by_cases h : c = 0
  · rw [if_pos h, if_pos h, if_pos rfl]
    funext j
    simp only [vp_updL]
    by_cases q : j = 0 <;> simp [q]
  · rw [if_neg h, if_neg h, if_neg h]
theorem zseedM_self {M : mm_M} {d : Nat} (h : M.2 0 0 = lN d) : zseedM M d = M := by
  refine Prod.ext rfl ?_
  funext c
  show (if c = 0 then vp_updL (M.2 0) 0 (lN d) else M.2 c) = M.2 c
  by_cases q : c = 0
  · rw [if_pos q, q]
    funext j
    simp only [vp_updL]
    by_cases r : j = 0
    · rw [if_pos r, r, h]
    · rw [if_neg r]
  · rw [if_neg q]

set_option maxRecDepth 100000 in
theorem c_X0_begin {E : mm_E} (hI : mm_FX E) {M : mm_M} {d : Nat} (hR : M.2 0 0 = lN d) (hW : d < 2 ^ 31) {v : Nat} (hv : v < 2 ^ 31) : mm_Cal E mX0_begin [.ref (E.1 0), .int (nI v)] M (ret1 (.int (nI d)) (zseedM M v)) := by
  refine jr_entry RX0 (by decide +kernel) (Nat.le_of_ble_eq_true rfl) (fun g hg => ?_)
  refine jr_lv (lv' := [(0, .ref (E.1 0)), (1, .int (nI v))]) [0, 1] rfl ?_
  refine jr_aload_n hg 0 rfl rfl dX0_begin_0 ?_
  refine gf_X0_9 hg (hI 0 (by decide)) dX0_begin_1 ?_
  refine jr_topl (hR) ?_
  refine jr_l2i hg (nI _) dX0_begin_4 (lN_i _) ?_
  refine jr_istore_n hg dX0_begin_5 rfl (by decide) rfl ?_
  refine jr_aload_n hg 1 rfl rfl dX0_begin_6 ?_
  refine jr_iload_n hg 2 rfl rfl dX0_begin_7 ?_
  refine jr_i2l hg (lN _) dX0_begin_8 (nI_l (by omega)) ?_
  refine pf_X0_9 hg (hI 0 (by decide)) dX0_begin_9 ?_
  refine jr_iload_n hg 0 rfl rfl dX0_begin_12 ?_
  exact jr_iret hg rfl dX0_begin_13 (⟨rfl, rfl⟩)

set_option maxRecDepth 100000 in
theorem c_X0_draw {E : mm_E} (hI : mm_FX E) {M : mm_M} {d : Nat} (hR : M.2 0 0 = lN d) (hW : d < 2 ^ 31) : mm_Cal E mX0_draw [.ref (E.1 0)] M (ret1 (.int (nI (z_dv (z_sd d)))) (zseedM M (z_sd d))) := by
  have hq2 := z_sd_lt d
  refine jr_entry RX0 (by decide +kernel) (Nat.le_of_ble_eq_true rfl) (fun g hg => ?_)
  refine jr_lv (lv' := [(0, .ref (E.1 0))]) [0] rfl ?_
  refine jr_aload_n hg 0 rfl rfl dX0_draw_0 ?_
  refine jr_aload_n hg 0 rfl rfl dX0_draw_1 ?_
  refine gf_X0_9 hg (hI 0 (by decide)) dX0_draw_2 ?_
  refine jr_topl (hR) ?_
  refine jr_ldc2 hg wm_27_17 dX0_draw_5 ?_
  refine jr_topl (show (1103515245 : Int64) = lN 1103515245 by decide) ?_
  refine jr_lmul hg dX0_draw_8 ?_
  refine jr_topl (lN_mul _ _) ?_
  refine jr_ldc2 hg wm_27_18 dX0_draw_9 ?_
  refine jr_topl (show (12345 : Int64) = lN 12345 by decide) ?_
  refine jr_ladd hg dX0_draw_12 ?_
  refine jr_topl (lN_add _ _) ?_
  refine jr_ldc2 hg wm_27_19 dX0_draw_13 ?_
  refine jr_topl (show (2147483647 : Int64) = lN 2147483647 by decide) ?_
  refine jr_land hg dX0_draw_16 ?_
  refine jr_topl (lN_land (by omega)) ?_
  refine pf_X0_9 hg (hI 0 (by decide)) dX0_draw_17 ?_
  refine jr_aload_n hg 0 rfl rfl dX0_draw_20 ?_
  refine gf_X0_9 hg (hI 0 (by decide)) dX0_draw_21 ?_
  refine jr_topl (rfl) ?_
  refine jr_ldc2 hg wm_27_20 dX0_draw_24 ?_
  refine jr_topl (show (65536 : Int64) = lN 65536 by decide) ?_
  refine jr_ldiv hg dX0_draw_27 (by decide) ?_
  refine jr_topl ((pk_lDiv (by omega) (by decide) (by decide) : _ = lN (z_sd d / 65536))) ?_
  refine jr_ldc2 hg wm_27_21 dX0_draw_28 ?_
  refine jr_topl (show (100 : Int64) = lN 100 by decide) ?_
  refine jr_lrem hg dX0_draw_31 (by decide) ?_
  refine jr_topl ((pk_lRem (by omega) (by decide) (by decide) : _ = lN (z_dv (z_sd d)))) ?_
  refine jr_l2i hg (nI _) dX0_draw_32 (lN_i _) ?_
  exact jr_iret hg rfl dX0_draw_33 (⟨rfl, rfl⟩)

set_option maxRecDepth 100000 in
theorem c_X0_drawKind {E : mm_E} (hI : mm_FX E) {M : mm_M} {d : Nat} (hR : M.2 0 0 = lN d) (hW : d < 2 ^ 31) : mm_Cal E mX0_drawKind [.ref (E.1 0)] M (ret1 (.int (nI (z_dv (z_sd d) % 3))) (zseedM M (z_sd d))) := by
  have hq2 := z_dv_lt (z_sd d)
  refine jr_entry RX0 (by decide +kernel) (Nat.le_of_ble_eq_true rfl) (fun g hg => ?_)
  refine jr_lv (lv' := [(0, .ref (E.1 0))]) [0] rfl ?_
  refine jr_aload_n hg 0 rfl rfl dX0_drawKind_0 ?_
  refine jr_cV0v hg lk_X0_25 (hI 0 (by decide)) rfl rfl (by decide) (by decide) (Nat.le_of_ble_eq_true rfl) dX0_drawKind_1 (c_X0_draw hI hR hW) ?_
  refine jr_iconst hg (nI 3) dX0_drawKind_4 (by decide) ?_
  refine jr_iremN hg dX0_drawKind_5 (by omega) (by omega) (by omega) ?_
  exact jr_iret hg rfl dX0_drawKind_6 (⟨rfl, rfl⟩)
