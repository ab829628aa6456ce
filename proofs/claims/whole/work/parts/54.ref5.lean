theorem zw_1 (x : Int32) {n : Nat} (hn : n < 2 ^ 30) : decide (nI 1 ≤ x ∧ x ≤ nI n - nI 1) = (decide (x ≠ 0) && zin x n) := by
  have h1 : nI 1 ≤ x ↔ 1 ≤ x.toInt := by rw [Int32.le_iff_toInt_le, nI_toInt (by decide)]; rfl
  have h2 : x ≤ nI n - nI 1 ↔ x.toInt ≤ (n : Int) - 1 := by rw [Int32.le_iff_toInt_le, pk_sub_toInt hn (by decide)]; rfl
  by_cases h0 : x = 0
  · subst h0
    rw [decide_eq_false (fun q => by rw [h1, Int32.toInt_zero] at q; omega), decide_eq_false (fun q => q rfl)]; rfl
  · have h3 : x.toInt ≠ 0 := fun q => h0 (Int32.toInt_inj.mp (by rw [q, Int32.toInt_zero]))
    rw [decide_eq_true h0, Bool.true_and, zin]
    refine decide_eq_decide.mpr ?_
    rw [h1, h2]; omega
theorem c_X8_inT {E : mm_E} (hI : mm_FR E) {M : mm_M} {a : Int64} (x : Int32) {n : Nat} (e : a = x.toInt64) (hn : n < 2 ^ 30) : mm_Cal E mX8_in [.long a, .long (lN 1), .long (nI n - nI 1).toInt64] M (ret1 (.int (nI (decide (x ≠ 0) && zin x n).toNat)) M) := by
  have h := c_X8_inI hI (M := M) e (nI_l (n := 1) (by decide)).symm (rfl : (nI n - nI 1).toInt64 = (nI n - nI 1).toInt64)
  rw [zw_1 x hn] at h
  exact h
theorem zR_57 {s : zS} {M M1 : mm_M} (h : zR s M) (hs : mm_same [57, 58, 59] M M1) : zR s M1 :=
  ⟨zR_p_c (by rw [(hs 35 (by decide)).1]) (hs.at (by decide)) h.1, zR_l_c (by rw [(hs 35 (by decide)).1]) (hs.at (by decide)) h.2.1, zR_k_c (by rw [(hs 35 (by decide)).1]) (hs.at (by decide)) h.2.2.1, zR_w_c (hs.at (by decide)) h.2.2.2.1, zR_t_c (by rw [(hs 35 (by decide)).1]) (by rw [(hs 35 (by decide)).1]) (hs.at (by decide)) h.2.2.2.2.1, zR_d_c (by rw [(hs 35 (by decide)).1]) h.2.2.2.2.2.1, zR_o_c (by rw [(hs 35 (by decide)).1]) (hs.at (by decide)) h.2.2.2.2.2.2.1, zR_q_c (by rw [(hs 35 (by decide)).1]) (hs.at (by decide)) h.2.2.2.2.2.2.2⟩

set_option maxRecDepth 100000 in
theorem c_X8_tree {E : mm_E} (hI : mm_FR E) {M : mm_M} {s : zS} (hR : zR s M) (hW : zW s) (S w : Int32) : mm_Cal E mX8_tree [.ref (E.1 35), .int S, .int w] M (fun v M' => v = some (.int (zq_tree s S w).1) ∧ zR (zq_tree s S w).2 M') := by
  obtain ⟨Rp, Rl, Rk, Rw, Rt, Rd, Ro, Rq⟩ := hR
  obtain ⟨Wp, Wl, Wk, Ww, Wt, Wd, Wo, Wq⟩ := hW
  have hnp := Wp.1
  have hnl := Wl.1
  have hnk := Wk.1
  have rall : zR s M := ⟨Rp, Rl, Rk, Rw, Rt, Rd, Ro, Rq⟩
  have wall : zW s := ⟨Wp, Wl, Wk, Ww, Wt, Wd, Wo, Wq⟩
  have h86 := zpow8 Wq.2.1
  have h87 := Wq.2.1
  refine jr_entry RX8 (by decide +kernel) (Nat.le_of_ble_eq_true rfl) (fun g hg => ?_)
  refine jr_lv (lv' := [(0, .ref (E.1 35)), (1, .int S), (2, .int w)]) [0, 1, 2] rfl ?_
  refine jr_iload_n hg 1 rfl rfl dX8_tree_0 ?_
  refine jr_i2l hg _ dX8_tree_1 rfl ?_
  refine jr_lconst hg (lN 1) dX8_tree_2 (by decide) ?_
  refine jr_iconst hg (nI 1) dX8_tree_3 (by decide) ?_
  refine jr_aload_n hg 0 rfl rfl dX8_tree_4 ?_
  refine gf_X8_95 hg (hI 35 (by decide)) dX8_tree_5 ?_
  refine jr_top (Rq.1) ?_
  refine jr_ishl hg dX8_tree_8 ?_
  refine jr_top (nI_shl1 (by omega)) ?_
  refine jr_iconst hg (nI 1) dX8_tree_9 (by decide) ?_
  refine jr_isub hg dX8_tree_10 ?_
  refine jr_i2l hg _ dX8_tree_11 rfl ?_
  refine jr_cS3v hg lk_X8_100 (by decide) (by decide) (Nat.le_of_ble_eq_true rfl) dX8_tree_12 (c_X8_inT hI S rfl (by omega)) ?_
  refine jr_if_eqZ (tgt := 30) hg dX8_tree_15 (by decide) (fun h15 => ?_) (fun h15 => ?_)
  · refine jr_sipush hg (-1002) dX8_tree_30 (by decide) ?_
    exact jr_iret hg rfl dX8_tree_33 (zq_okR (by rw [zq_tree, if_neg (by rw [h15]; simp)]) rall)
  · refine jr_iload_n hg 2 rfl rfl dX8_tree_18 ?_
    refine jr_i2l hg _ dX8_tree_19 rfl ?_
    refine jr_lconst hg (lN 0) dX8_tree_20 (by decide) ?_
    refine jr_ldc2 hg wm_8_0 dX8_tree_21 ?_
    refine jr_topl (show (2 : Int64) = lN 2 by decide) ?_
    refine jr_cS3v hg lk_X8_100 (by decide) (by decide) (Nat.le_of_ble_eq_true rfl) dX8_tree_24 (c_X8_in0 hI w rfl (by decide)) ?_
    refine jr_if_neZ (tgt := 34) hg dX8_tree_27 (by decide) (fun h27 => ?_) (fun h27 => ?_)
    · have hz := h15
      simp only [Bool.and_eq_true, decide_eq_true_eq] at hz
      obtain ⟨S1, hS, rfl⟩ := zin_of (by omega) hz.2
      have hS1 : 1 ≤ S1 := by rcases Nat.eq_zero_or_pos S1 with q | q; exact absurd (by rw [q]; rfl) hz.1; exact q
      obtain ⟨w1, hw, rfl⟩ := zin_of (by decide) h27
      refine jr_aload_n hg 0 rfl rfl dX8_tree_34 ?_
      refine jr_cV0p hg lk_X8_280 (hI 35 (by decide)) rfl rfl (by decide) (by decide) (Nat.le_of_ble_eq_true rfl) dX8_tree_35 (c_X8_findTrees hI Rq Wq) (fun r M' h => ?_)
      obtain ⟨rfl, hP, hs⟩ := h
      refine jr_st (show _ = [] from rfl) ?_
      refine jr_iload_n hg 2 rfl rfl dX8_tree_38 ?_
      refine jr_if_neN (tgt := 51) hg dX8_tree_39 (by decide) (by omega) (fun h39 => ?_) (fun h39 => ?_)
      · refine jr_iload_n hg 2 rfl rfl dX8_tree_51 ?_
        refine jr_iconst hg (nI 1) dX8_tree_52 (by decide) ?_
        refine jr_icmp_neN (tgt := 65) hg dX8_tree_53 (by decide) (by omega) (by omega) (fun h53 => ?_) (fun h53 => ?_)
        · refine jr_aload_n hg 0 rfl rfl dX8_tree_65 ?_
          refine gf_X8_85 hg (hI 35 (by decide)) dX8_tree_66 ?_
          refine jr_iload_n hg 1 rfl rfl dX8_tree_69 ?_
          refine jr_ialdN hg (n := 256) (by omega) (by decide) (hI 59 (by decide)) (ac_59 _ _) dX8_tree_70 ?_
          refine jr_top ((hP S1 hS1 hS).2.2) ?_
          exact jr_iret hg rfl dX8_tree_71 (zq_okR (by rw [zq_tree, if_pos h15, if_pos h27, zn_nI (by omega), zn_nI (by omega), show w1 = 2 by omega]; rfl) (zR_57 rall hs))
        · refine jr_aload_n hg 0 rfl rfl dX8_tree_56 ?_
          refine gf_X8_82 hg (hI 35 (by decide)) dX8_tree_57 ?_
          refine jr_iload_n hg 1 rfl rfl dX8_tree_60 ?_
          refine jr_ialdN hg (n := 256) (by omega) (by decide) (hI 58 (by decide)) (ac_58 _ _) dX8_tree_61 ?_
          refine jr_top ((hP S1 hS1 hS).2.1) ?_
          refine jr_goto (tgt := 71) hg dX8_tree_62 (by decide) ?_
          exact jr_iret hg rfl dX8_tree_71 (zq_okR (by rw [zq_tree, if_pos h15, if_pos h27, zn_nI (by omega), zn_nI (by omega), show w1 = 1 by omega]; rfl) (zR_57 rall hs))
      · refine jr_aload_n hg 0 rfl rfl dX8_tree_42 ?_
        refine gf_X8_79 hg (hI 35 (by decide)) dX8_tree_43 ?_
        refine jr_iload_n hg 1 rfl rfl dX8_tree_46 ?_
        refine jr_ialdN hg (n := 256) (by omega) (by decide) (hI 57 (by decide)) (ac_57 _ _) dX8_tree_47 ?_
        refine jr_top ((hP S1 hS1 hS).1) ?_
        refine jr_goto (tgt := 71) hg dX8_tree_48 (by decide) ?_
        exact jr_iret hg rfl dX8_tree_71 (zq_okR (by rw [zq_tree, if_pos h15, if_pos h27, zn_nI (by omega), zn_nI (by omega), show w1 = 0 by omega]; rfl) (zR_57 rall hs))
    · refine jr_sipush hg (-1002) dX8_tree_30 (by decide) ?_
      exact jr_iret hg rfl dX8_tree_33 (zq_okR (by rw [zq_tree, if_pos h15, if_neg (by rw [h27]; simp)]) rall)

set_option maxRecDepth 100000 in
theorem c_X8_side_1 {E : mm_E} (hI : mm_FR E) {M : mm_M} {s : zS} (Rq : zR_q s M) (Wq : zW_q s) {S k t : Nat} (hS : S < 256) (ht : t < 8) (hk : k < 6) (hf : M.1 58 S = nI k) : mm_Cal E mX8_side [.ref (E.1 35), .int (nI S), .int (nI t), .int (nI 1)] M (ret1 (.int (nI (if (s 16 k).testBit t then z_no S (s 16 k) else S &&& s 16 k))) M) := by
  have hn2 := Wq.1
  have hn8 := Wq.2.1
  have hpw := zpow8 hn8
  have hq := zW_q256 Wq
  have hw : ∀ t, t < 8 → s 15 t ≤ 99 := fun t ht => (Wq.2.2.1 t ht).2
  have hqk := hq k hk
  refine jr_entry RX8 (by decide +kernel) (Nat.le_of_ble_eq_true rfl) (fun g hg => ?_)
  refine jr_lv (lv' := [(0, .ref (E.1 35)), (1, .int (nI S)), (2, .int (nI t)), (3, .int (nI 1))]) [0, 1, 2, 3] rfl ?_
  refine jr_aload_n hg 0 rfl rfl dX8_side_0 ?_
  refine gf_X8_82 hg (hI 35 (by decide)) dX8_side_1 ?_
  refine jr_iload_n hg 1 rfl rfl dX8_side_4 ?_
  refine jr_ialdN hg (n := 256) (by omega) (by decide) (hI 58 (by decide)) (ac_58 _ _) dX8_side_5 ?_
  refine jr_top (hf) ?_
  refine jr_istore hg dX8_side_6 (by decide) rfl ?_
  refine jr_aload_n hg 1 rfl rfl dX8_side_8 ?_
  refine gf_X8_76 hg (hI 35 (by decide)) dX8_side_9 ?_
  refine jr_iload hg 0 rfl dX8_side_12 ?_
  refine jr_ialdN hg (n := 6) (by omega) (by decide) (hI 56 (by decide)) (ac_56 _ _) dX8_side_14 ?_
  refine jr_top (Rq.2.2 _ (by omega)) ?_
  refine jr_iload_n hg 3 rfl rfl dX8_side_15 ?_
  refine jr_ishr hg dX8_side_16 ?_
  refine jr_top (nI_shr (by omega) (by omega)) ?_
  refine jr_iconst hg (nI 1) dX8_side_17 (by decide) ?_
  refine jr_iand hg dX8_side_18 ?_
  refine jr_top (nI_and1 (Nat.lt_of_le_of_lt (Nat.div_le_self _ _) (by omega))) ?_
  refine jr_iconst hg (nI 1) dX8_side_19 (by decide) ?_
  refine jr_icmp_neN (tgt := 27) hg dX8_side_20 (by decide) (by omega) (by omega) (fun h20 => ?_) (fun h20 => ?_)
  · refine jr_iconst hg (nI 0) dX8_side_27 (by decide) ?_
    refine jr_istore hg dX8_side_28 (by decide) rfl ?_
    refine jr_iload hg 0 rfl dX8_side_30 ?_
    refine jr_iload_n hg 5 rfl rfl dX8_side_32 ?_
    refine jr_icmp_eqN (tgt := 48) hg dX8_side_33 (by decide) (by omega) (by omega) (fun h => by omega) (fun h33 => ?_)
    refine jr_iload_n hg 3 rfl rfl dX8_side_36 ?_
    refine jr_aload_n hg 2 rfl rfl dX8_side_37 ?_
    refine gf_X8_76 hg (hI 35 (by decide)) dX8_side_38 ?_
    refine jr_iload hg 1 rfl dX8_side_41 ?_
    refine jr_ialdN hg (n := 6) (by omega) (by decide) (hI 56 (by decide)) (ac_56 _ _) dX8_side_43 ?_
    refine jr_top (Rq.2.2 _ (by omega)) ?_
    refine jr_iand hg dX8_side_44 ?_
    refine jr_top (nI_and _ _) ?_
    refine jr_goto (tgt := 59) hg dX8_side_45 (by decide) ?_
    exact jr_iret hg rfl dX8_side_59 (⟨by rw [zbit, decide_eq_false h20]; rfl, rfl⟩)
  · refine jr_iconst hg (nI 1) dX8_side_23 (by decide) ?_
    refine jr_goto (tgt := 28) hg dX8_side_24 (by decide) ?_
    refine jr_istore hg dX8_side_28 (by decide) rfl ?_
    refine jr_iload hg 0 rfl dX8_side_30 ?_
    refine jr_iload_n hg 5 rfl rfl dX8_side_32 ?_
    refine jr_icmp_eqN (tgt := 48) hg dX8_side_33 (by decide) (by omega) (by omega) (fun h33 => ?_) (fun h => by omega)
    refine jr_iload_n hg 3 rfl rfl dX8_side_48 ?_
    refine jr_aload_n hg 2 rfl rfl dX8_side_49 ?_
    refine gf_X8_76 hg (hI 35 (by decide)) dX8_side_50 ?_
    refine jr_iload hg 1 rfl dX8_side_53 ?_
    refine jr_ialdN hg (n := 6) (by omega) (by decide) (hI 56 (by decide)) (ac_56 _ _) dX8_side_55 ?_
    refine jr_top (Rq.2.2 _ (by omega)) ?_
    refine jr_iconst hg (-1) dX8_side_56 (by decide) ?_
    refine jr_ixor hg dX8_side_57 ?_
    refine jr_iand hg dX8_side_58 ?_
    refine jr_top (nI_xm1 (hq k hk) hS) ?_
    exact jr_iret hg rfl dX8_side_59 (⟨by rw [zbit, decide_eq_true h20]; rfl, rfl⟩)

set_option maxRecDepth 100000 in
theorem c_X8_side_0 {E : mm_E} (hI : mm_FR E) {M : mm_M} {s : zS} (Rq : zR_q s M) (Wq : zW_q s) {S k t : Nat} (hS : S < 256) (ht : t < 8) (hk : k < 6) (hf : M.1 58 S = nI k) : mm_Cal E mX8_side [.ref (E.1 35), .int (nI S), .int (nI t), .int (nI 0)] M (ret1 (.int (nI (z_si (s 16) S k t))) M) := by
  have hn2 := Wq.1
  have hn8 := Wq.2.1
  have hpw := zpow8 hn8
  have hq := zW_q256 Wq
  have hw : ∀ t, t < 8 → s 15 t ≤ 99 := fun t ht => (Wq.2.2.1 t ht).2
  have hqk := hq k hk
  refine jr_entry RX8 (by decide +kernel) (Nat.le_of_ble_eq_true rfl) (fun g hg => ?_)
  refine jr_lv (lv' := [(0, .ref (E.1 35)), (1, .int (nI S)), (2, .int (nI t)), (3, .int (nI 0))]) [0, 1, 2, 3] rfl ?_
  refine jr_aload_n hg 0 rfl rfl dX8_side_0 ?_
  refine gf_X8_82 hg (hI 35 (by decide)) dX8_side_1 ?_
  refine jr_iload_n hg 1 rfl rfl dX8_side_4 ?_
  refine jr_ialdN hg (n := 256) (by omega) (by decide) (hI 58 (by decide)) (ac_58 _ _) dX8_side_5 ?_
  refine jr_top (hf) ?_
  refine jr_istore hg dX8_side_6 (by decide) rfl ?_
  refine jr_aload_n hg 1 rfl rfl dX8_side_8 ?_
  refine gf_X8_76 hg (hI 35 (by decide)) dX8_side_9 ?_
  refine jr_iload hg 0 rfl dX8_side_12 ?_
  refine jr_ialdN hg (n := 6) (by omega) (by decide) (hI 56 (by decide)) (ac_56 _ _) dX8_side_14 ?_
  refine jr_top (Rq.2.2 _ (by omega)) ?_
  refine jr_iload_n hg 3 rfl rfl dX8_side_15 ?_
  refine jr_ishr hg dX8_side_16 ?_
  refine jr_top (nI_shr (by omega) (by omega)) ?_
  refine jr_iconst hg (nI 1) dX8_side_17 (by decide) ?_
  refine jr_iand hg dX8_side_18 ?_
  refine jr_top (nI_and1 (Nat.lt_of_le_of_lt (Nat.div_le_self _ _) (by omega))) ?_
  refine jr_iconst hg (nI 1) dX8_side_19 (by decide) ?_
  refine jr_icmp_neN (tgt := 27) hg dX8_side_20 (by decide) (by omega) (by omega) (fun h20 => ?_) (fun h20 => ?_)
  · refine jr_iconst hg (nI 0) dX8_side_27 (by decide) ?_
    refine jr_istore hg dX8_side_28 (by decide) rfl ?_
    refine jr_iload hg 0 rfl dX8_side_30 ?_
    refine jr_iload_n hg 5 rfl rfl dX8_side_32 ?_
    refine jr_icmp_eqN (tgt := 48) hg dX8_side_33 (by decide) (by omega) (by omega) (fun h33 => ?_) (fun h => by omega)
    refine jr_iload_n hg 3 rfl rfl dX8_side_48 ?_
    refine jr_aload_n hg 2 rfl rfl dX8_side_49 ?_
    refine gf_X8_76 hg (hI 35 (by decide)) dX8_side_50 ?_
    refine jr_iload hg 1 rfl dX8_side_53 ?_
    refine jr_ialdN hg (n := 6) (by omega) (by decide) (hI 56 (by decide)) (ac_56 _ _) dX8_side_55 ?_
    refine jr_top (Rq.2.2 _ (by omega)) ?_
    refine jr_iconst hg (-1) dX8_side_56 (by decide) ?_
    refine jr_ixor hg dX8_side_57 ?_
    refine jr_iand hg dX8_side_58 ?_
    refine jr_top (nI_xm1 (hq k hk) hS) ?_
    exact jr_iret hg rfl dX8_side_59 (⟨by rw [z_si, zbit, decide_eq_false h20]; rfl, rfl⟩)
  · refine jr_iconst hg (nI 1) dX8_side_23 (by decide) ?_
    refine jr_goto (tgt := 28) hg dX8_side_24 (by decide) ?_
    refine jr_istore hg dX8_side_28 (by decide) rfl ?_
    refine jr_iload hg 0 rfl dX8_side_30 ?_
    refine jr_iload_n hg 5 rfl rfl dX8_side_32 ?_
    refine jr_icmp_eqN (tgt := 48) hg dX8_side_33 (by decide) (by omega) (by omega) (fun h => by omega) (fun h33 => ?_)
    refine jr_iload_n hg 3 rfl rfl dX8_side_36 ?_
    refine jr_aload_n hg 2 rfl rfl dX8_side_37 ?_
    refine gf_X8_76 hg (hI 35 (by decide)) dX8_side_38 ?_
    refine jr_iload hg 1 rfl dX8_side_41 ?_
    refine jr_ialdN hg (n := 6) (by omega) (by decide) (hI 56 (by decide)) (ac_56 _ _) dX8_side_43 ?_
    refine jr_top (Rq.2.2 _ (by omega)) ?_
    refine jr_iand hg dX8_side_44 ?_
    refine jr_top (nI_and _ _) ?_
    refine jr_goto (tgt := 59) hg dX8_side_45 (by decide) ?_
    exact jr_iret hg rfl dX8_side_59 (⟨by rw [z_si, zbit, decide_eq_true h20]; rfl, rfl⟩)

set_option maxRecDepth 100000 in
theorem c_X8_wrong {E : mm_E} (hI : mm_FR E) {M : mm_M} {s : zS} (hR : zR s M) (hW : zW s) (t : Int32) : mm_Cal E mX8_wrong [.ref (E.1 35), .int t] M (fun v M' => v = some (.int (zq_wrong s t).1) ∧ zR (zq_wrong s t).2 M') := by
  obtain ⟨Rp, Rl, Rk, Rw, Rt, Rd, Ro, Rq⟩ := hR
  obtain ⟨Wp, Wl, Wk, Ww, Wt, Wd, Wo, Wq⟩ := hW
  have hnp := Wp.1
  have hnl := Wl.1
  have hnk := Wk.1
  have rall : zR s M := ⟨Rp, Rl, Rk, Rw, Rt, Rd, Ro, Rq⟩
  have wall : zW s := ⟨Wp, Wl, Wk, Ww, Wt, Wd, Wo, Wq⟩
  have h86 := zpow8 Wq.2.1
  have h87 := Wq.2.1
  have hn2 := Wq.1
  have hp1 : 2 ^ 2 ≤ 2 ^ s 0 6 := Nat.pow_le_pow_right (by decide) hn2
  have hq := zW_q256 Wq
  refine jr_entry RX8 (by decide +kernel) (Nat.le_of_ble_eq_true rfl) (fun g hg => ?_)
  refine jr_lv (lv' := [(0, .ref (E.1 35)), (1, .int t)]) [0, 1] rfl ?_
  refine jr_iload_n hg 1 rfl rfl dX8_wrong_0 ?_
  refine jr_i2l hg _ dX8_wrong_1 rfl ?_
  refine jr_lconst hg (lN 0) dX8_wrong_2 (by decide) ?_
  refine jr_aload_n hg 0 rfl rfl dX8_wrong_3 ?_
  refine gf_X8_95 hg (hI 35 (by decide)) dX8_wrong_4 ?_
  refine jr_top (Rq.1) ?_
  refine jr_iconst hg (nI 1) dX8_wrong_7 (by decide) ?_
  refine jr_isub hg dX8_wrong_8 ?_
  refine jr_i2l hg _ dX8_wrong_9 rfl ?_
  refine jr_cS3v hg lk_X8_100 (by decide) (by decide) (Nat.le_of_ble_eq_true rfl) dX8_wrong_10 (c_X8_inM hI t rfl (by omega)) ?_
  refine jr_if_neZ (tgt := 20) hg dX8_wrong_13 (by decide) (fun h13 => ?_) (fun h13 => ?_)
  · obtain ⟨t1, ht, rfl⟩ := zin_of (by omega) h13
    refine jr_aload_n hg 0 rfl rfl dX8_wrong_20 ?_
    refine jr_cV0p hg lk_X8_280 (hI 35 (by decide)) rfl rfl (by decide) (by decide) (Nat.le_of_ble_eq_true rfl) dX8_wrong_21 (c_X8_findTrees hI Rq Wq) (fun r M' h => ?_)
    obtain ⟨rfl, hP, hs⟩ := h
    refine jr_st (show _ = [] from rfl) ?_
    have Rq : zR_q s M' := (zR_57 rall hs).2.2.2.2.2.2.2
    refine jr_iconst hg (nI 1) dX8_wrong_24 (by decide) ?_
    refine jr_aload_n hg 0 rfl rfl dX8_wrong_25 ?_
    refine gf_X8_95 hg (hI 35 (by decide)) dX8_wrong_26 ?_
    refine jr_top (Rq.1) ?_
    refine jr_ishl hg dX8_wrong_29 ?_
    refine jr_top (nI_shl1 (by omega)) ?_
    refine jr_iconst hg (nI 1) dX8_wrong_30 (by decide) ?_
    refine jr_isubN hg dX8_wrong_31 (by omega) ?_
    refine jr_istore_n hg dX8_wrong_32 rfl (by decide) rfl ?_
    have ha := hP (2 ^ s 0 6 - 1) (by omega) (by omega)
    have hf0 := z_e_first (w := s 15) (S := (2 ^ s 0 6 - 1)) (by omega) hq
    have hwt := z_wt_eq (s 15) (s 16) (s 0 6) t1
    generalize (z_e (s 15) (s 16) (2 ^ s 0 6 - 1)).2.1 = F0 at hf0 hwt ha
    rcases F0 with _ | k
    · rw [if_pos rfl] at hwt
      refine jr_aload_n hg 1 rfl rfl dX8_wrong_33 ?_
      refine gf_X8_82 hg (hI 35 (by decide)) dX8_wrong_34 ?_
      refine jr_iload_n hg 0 rfl rfl dX8_wrong_37 ?_
      refine jr_ialdN hg (n := 256) (by omega) (by decide) (hI 58 (by decide)) (ac_58 _ _) dX8_wrong_38 ?_
      refine jr_top (ha.2.1) ?_
      refine jr_if_ge (tgt := 44) hg dX8_wrong_39 (by decide) (fun h => absurd h (zlt_nle zm1)) (fun h39 => ?_)
      refine jr_iconst hg (nI 0) dX8_wrong_42 (by decide) ?_
      exact jr_iret hg rfl dX8_wrong_43 (zq_okR (by rw [zq_wrong, if_pos h13, zn_nI (by omega), hwt]) (zR_57 rall hs))
    · rw [if_neg (Nat.succ_ne_zero k), Nat.add_sub_cancel] at hwt
      have hf1 := hf0 (Nat.succ_ne_zero k)
      rw [Nat.add_sub_cancel] at hf1
      rw [zmv_s] at ha
      have hqk := hq k hf1.1
      refine jr_aload_n hg 1 rfl rfl dX8_wrong_33 ?_
      refine gf_X8_82 hg (hI 35 (by decide)) dX8_wrong_34 ?_
      refine jr_iload_n hg 0 rfl rfl dX8_wrong_37 ?_
      refine jr_ialdN hg (n := 256) (by omega) (by decide) (hI 58 (by decide)) (ac_58 _ _) dX8_wrong_38 ?_
      refine jr_top (ha.2.1) ?_
      refine jr_if_ge (tgt := 44) hg dX8_wrong_39 (by decide) (fun h39 => ?_) (fun h => (h (nI_pos' (by omega))).elim)
      refine jr_aload_n hg 1 rfl rfl dX8_wrong_44 ?_
      refine jr_iload_n hg 0 rfl rfl dX8_wrong_45 ?_
      refine jr_iload_n hg 2 rfl rfl dX8_wrong_46 ?_
      refine jr_iconst hg (nI 1) dX8_wrong_47 (by decide) ?_
      refine jr_cV3v hg lk_X8_283 (hI 35 (by decide)) rfl rfl (by decide) (by decide) (Nat.le_of_ble_eq_true rfl) dX8_wrong_48 (c_X8_side_1 hI Rq Wq (by omega) (by omega) hf1.1 ha.2.1) ?_
      refine jr_istore_n hg dX8_wrong_51 rfl (by decide) rfl ?_
      have hso : 1 ≤ (if (s 16 k).testBit t1 then z_no (2 ^ s 0 6 - 1) (s 16 k) else (2 ^ s 0 6 - 1) &&& s 16 k) ∧ (if (s 16 k).testBit t1 then z_no (2 ^ s 0 6 - 1) (s 16 k) else (2 ^ s 0 6 - 1) &&& s 16 k) < 2 ^ s 0 6 := by
        have sp := zsplit (2 ^ s 0 6 - 1) (by omega) (s 16 k) hqk
        split; exact ⟨by omega, by omega⟩; exact ⟨by omega, by omega⟩
      have lp52 : ∀ f : Nat, ∀ (L F : Nat), 1 ≤ L → L < 2 ^ s 0 6 → z_pc L ≤ f + 1 → f ≤ F → z_wf (s 15) (s 16) t1 F L = z_wt (s 15) (s 16) (s 0 6) t1 → mm_J g E mX8_wrong (fun v M' => v = some (.int (zq_wrong s (nI t1)).1) ∧ zR (zq_wrong s (nI t1)).2 M') 52 [(0, .ref (E.1 35)), (1, .int (nI t1)), (2, .int (nI L))] [] (M') := by
        refine jr_dn (S := fun f => ∀ (L F : Nat), 1 ≤ L → L < 2 ^ s 0 6 → z_pc L ≤ f + 1 → f ≤ F → z_wf (s 15) (s 16) t1 F L = z_wt (s 15) (s 16) (s 0 6) t1 → mm_J g E mX8_wrong (fun v M' => v = some (.int (zq_wrong s (nI t1)).1) ∧ zR (zq_wrong s (nI t1)).2 M') 52 [(0, .ref (E.1 35)), (1, .int (nI t1)), (2, .int (nI L))] [] (M')) ?_ ?_
        · intro L F hL1 hL2 hpc hF2 hres
          show mm_J g E mX8_wrong (fun v M' => v = some (.int (zq_wrong s (nI t1)).1) ∧ zR (zq_wrong s (nI t1)).2 M') 52 [(0, .ref (E.1 35)), (1, .int (nI t1)), (2, .int (nI L))] [] (M')
          have ha := hP L hL1 hL2
          have hf0 := z_e_first (w := s 15) (S := L) (by omega) hq
          generalize hG : (z_e (s 15) (s 16) L).2.1 = F0 at hf0 ha
          rcases F0 with _ | j
          · have hwf : z_wf (s 15) (s 16) t1 F L = L := by cases F; rfl; rw [z_wf, hG, if_pos rfl]
            refine jr_aload_n hg 0 rfl rfl dX8_wrong_52 ?_
            refine gf_X8_82 hg (hI 35 (by decide)) dX8_wrong_53 ?_
            refine jr_iload_n hg 2 rfl rfl dX8_wrong_56 ?_
            refine jr_ialdN hg (n := 256) (by omega) (by decide) (hI 58 (by decide)) (ac_58 _ _) dX8_wrong_57 ?_
            refine jr_top (ha.2.1) ?_
            refine jr_if_lt (tgt := 72) hg dX8_wrong_58 (by decide) (fun h58 => ?_) (fun h => absurd zm1 h)
            refine jr_iload_n hg 2 rfl rfl dX8_wrong_72 ?_
            exact jr_iret hg rfl dX8_wrong_73 (zq_okR (by rw [zq_wrong, if_pos h13, zn_nI (by omega), ← hres, hwf]) (zR_57 rall hs))
          · have hf1 := hf0 (Nat.succ_ne_zero j)
            rw [Nat.add_sub_cancel] at hf1
            rw [zmv_s] at ha
            have sp := zsplit L (by omega) (s 16 j) (hq j hf1.1)
            have pc := z_pc_split L (s 16 j)
            have p1 := z_pc_pos hf1.2.1 (by omega)
            have p2 := z_pc_pos hf1.2.2 (by omega)
            omega
        · intro f ih L F hL1 hL2 hpc hF2 hres
          show mm_J g E mX8_wrong (fun v M' => v = some (.int (zq_wrong s (nI t1)).1) ∧ zR (zq_wrong s (nI t1)).2 M') 52 [(0, .ref (E.1 35)), (1, .int (nI t1)), (2, .int (nI L))] [] (M')
          have ha := hP L hL1 hL2
          have hf0 := z_e_first (w := s 15) (S := L) (by omega) hq
          generalize hG : (z_e (s 15) (s 16) L).2.1 = F0 at hf0 ha
          rcases F0 with _ | j
          · have hwf : z_wf (s 15) (s 16) t1 F L = L := by cases F; rfl; rw [z_wf, hG, if_pos rfl]
            refine jr_aload_n hg 0 rfl rfl dX8_wrong_52 ?_
            refine gf_X8_82 hg (hI 35 (by decide)) dX8_wrong_53 ?_
            refine jr_iload_n hg 2 rfl rfl dX8_wrong_56 ?_
            refine jr_ialdN hg (n := 256) (by omega) (by decide) (hI 58 (by decide)) (ac_58 _ _) dX8_wrong_57 ?_
            refine jr_top (ha.2.1) ?_
            refine jr_if_lt (tgt := 72) hg dX8_wrong_58 (by decide) (fun h58 => ?_) (fun h => absurd zm1 h)
            refine jr_iload_n hg 2 rfl rfl dX8_wrong_72 ?_
            exact jr_iret hg rfl dX8_wrong_73 (zq_okR (by rw [zq_wrong, if_pos h13, zn_nI (by omega), ← hres, hwf]) (zR_57 rall hs))
          · have hf1 := hf0 (Nat.succ_ne_zero j)
            rw [Nat.add_sub_cancel] at hf1
            rw [zmv_s] at ha
            have sp := zsplit L (by omega) (s 16 j) (hq j hf1.1)
            have pc := z_pc_split L (s 16 j)
            have p1 := z_pc_pos hf1.2.1 (by omega)
            have p2 := z_pc_pos hf1.2.2 (by omega)
            obtain ⟨F1, rfl⟩ : ∃ F1, F = F1 + 1 := ⟨F - 1, by omega⟩
            rw [z_wf, hG, if_neg (Nat.succ_ne_zero j), Nat.add_sub_cancel] at hres
            have hsi : (1 ≤ z_si (s 16) L j t1 ∧ z_si (s 16) L j t1 ≤ L) ∧ z_pc (z_si (s 16) L j t1) ≤ f + 1 := by rw [z_si]; split; exact ⟨⟨by omega, by omega⟩, by omega⟩; exact ⟨⟨by omega, by omega⟩, by omega⟩
            refine jr_aload_n hg 0 rfl rfl dX8_wrong_52 ?_
            refine gf_X8_82 hg (hI 35 (by decide)) dX8_wrong_53 ?_
            refine jr_iload_n hg 2 rfl rfl dX8_wrong_56 ?_
            refine jr_ialdN hg (n := 256) (by omega) (by decide) (hI 58 (by decide)) (ac_58 _ _) dX8_wrong_57 ?_
            refine jr_top (ha.2.1) ?_
            refine jr_if_lt (tgt := 72) hg dX8_wrong_58 (by decide) (fun h => absurd h (nI_pos (by omega))) (fun h58 => ?_)
            refine jr_aload_n hg 0 rfl rfl dX8_wrong_61 ?_
            refine jr_iload_n hg 2 rfl rfl dX8_wrong_62 ?_
            refine jr_iload_n hg 1 rfl rfl dX8_wrong_63 ?_
            refine jr_iconst hg (nI 0) dX8_wrong_64 (by decide) ?_
            refine jr_cV3v hg lk_X8_283 (hI 35 (by decide)) rfl rfl (by decide) (by decide) (Nat.le_of_ble_eq_true rfl) dX8_wrong_65 (c_X8_side_0 hI Rq Wq (by omega) (by omega) hf1.1 ha.2.1) ?_
            refine jr_istore_n hg dX8_wrong_68 rfl (by decide) rfl ?_
            refine jr_goto (tgt := 52) hg dX8_wrong_69 (by decide) ?_
            exact jr_lv [1, 2, 0] rfl (ih (z_si (s 16) L j t1) F1 (by omega) (by omega) (by omega) (by omega) hres)
      exact jr_lv [1, 2, 0] rfl (lp52 7 (if (s 16 k).testBit t1 then z_no (2 ^ s 0 6 - 1) (s 16 k) else (2 ^ s 0 6 - 1) &&& s 16 k) 8 hso.1 hso.2 (z_pc_le _) (by omega) hwt.symm)
  · refine jr_sipush hg (-1002) dX8_wrong_16 (by decide) ?_
    exact jr_iret hg rfl dX8_wrong_19 (zq_okR (if_neg (by rw [h13]; simp)) rall)
