theorem z_hv_w {s : zS} (Wt : zW_t s) (b : Nat) : zwi 48 57 (z_hv s b) = (decide (b < s 0 4) && z_fg s b) := by
  by_cases h : b < s 0 4
  · have := Wt.2 b h
    rw [z_hv, if_pos h, decide_eq_true h, Bool.true_and, zwi_f (by omega)]; rfl
  · rw [z_hv, if_neg h, decide_eq_false h, Bool.false_and, zwi_m]
theorem z_ne_0 {s : zS} {b : Nat} (h : (decide (b < s 0 4) && z_fg s b) = false) : z_ne s b = b := by
  by_cases q : b < s 0 4
  · rw [decide_eq_true q, Bool.true_and] at h
    exact z_ru_f h
  · exact z_ru_e (by omega)
theorem z_ne_1 {s : zS} {b : Nat} (h : (decide (b < s 0 4) && z_fg s b) = true) : b < s 0 4 ∧ b + 1 ≤ z_ne s b := by
  simp only [Bool.and_eq_true, decide_eq_true_eq] at h
  refine ⟨h.1, ?_⟩
  rw [z_ne, z_ru_t h.1 h.2]
  exact z_ru_ge _ _ _
theorem z_vv_r {s : zS} {b e d : Nat} (hne : z_ne s b = e) (h : b + d = e) (h3 : d ≤ 3) : z_vv s b = z_vr s b d := by
  have hd : z_ne s b - b = d := by omega
  rw [z_vv, hd, z_vr_va d h3 (fun j hj => z_ne_fg (by omega))]
theorem z_nf_1 {s : zS} {k b : Nat} (hne : z_ne s b = b) : z_nf s k b = 1 := by rw [z_nf, if_pos hne]
theorem z_nf_ok {s : zS} {k b e d : Nat} (hne : z_ne s b = e) (h : b + d = e) (h1 : 1 ≤ d) (h3 : d ≤ 3) (hv : zlo k ≤ z_vr s b d ∧ z_vr s b d ≤ zhi k) : z_nf s k b = 0 := by
  rw [z_nf, if_neg (by omega), if_pos ⟨by omega, by rw [z_vv_r hne h h3]; exact hv⟩]
theorem z_nf_lg {s : zS} {k b e d : Nat} (hne : z_ne s b = e) (h : b + d = e) (h3 : 4 ≤ d) : z_nf s k b = 2 := by
  rw [z_nf, if_neg (by omega), if_neg (by omega)]
theorem z_nf_bd {s : zS} {k b e d : Nat} (hne : z_ne s b = e) (h : b + d = e) (h1 : 1 ≤ d) (h3 : d ≤ 3) (hv : ¬ (zlo k ≤ z_vr s b d ∧ z_vr s b d ≤ zhi k)) : z_nf s k b = 2 := by
  rw [z_nf, if_neg (by omega), if_neg (fun q => hv (by rw [← z_vv_r hne h h3]; exact q.2))]

set_option maxRecDepth 100000 in
theorem c_X8_takeNumber {E : mm_E} (hI : mm_FR E) {M : mm_M} {s : zS} {nl : Nat → Nat} {a : Nat} {fp : Int32} (Rg : zR_g s nl a 0 fp M) (Wt : zW_t s) (ha : a ≤ s 0 4) {k b e nf : Nat} (hk : k < 8) (hsp : z_sp s a = b) (hne : z_ne s b = e) (hnf : z_nf s k b = nf) : mm_Cal E mX8_takeNumber [.ref (E.1 35), .int (nI ((zlo k))), .int (nI ((zhi k)))] M (fun v M' => (if nf = 0 then v = some (.int (nI (z_vv s b))) ∧ zR_g s nl e 0 fp M' else (∃ x : Nat, v = some (.int (nI x))) ∧ ∃ a1, a1 ≤ s 0 4 ∧ zR_g s nl a1 nf (nI b) M') ∧ zft M M') := by
  have hn := Wt.1
  have hb : b ≤ s 0 4 := by rw [← hsp]; exact z_sp_n ha
  have he : e ≤ s 0 4 := by rw [← hne]; exact z_ne_n hb
  have hlh := z_lh k hk
  refine jr_entry RX8 (by decide +kernel) (Nat.le_of_ble_eq_true rfl) (fun g hg => ?_)
  refine jr_lv (lv' := [(0, .ref (E.1 35)), (1, .int (nI ((zlo k)))), (2, .int (nI ((zhi k))))]) [0, 1, 2] rfl ?_
  refine jr_aload_n hg 0 rfl rfl dX8_takeNumber_0 ?_
  refine gf_X8_112 hg (hI 35 (by decide)) dX8_takeNumber_1 ?_
  refine jr_top (Rg.2.2.2.2.1) ?_
  refine jr_if_leN (tgt := 9) hg dX8_takeNumber_4 (by decide) (by omega) (fun h4 => ?_) (fun h => by omega)
  refine jr_aload_n hg 0 rfl rfl dX8_takeNumber_9 ?_
  refine jr_cV0p hg lk_X8_125 (hI 35 (by decide)) rfl rfl (by decide) (by decide) (Nat.le_of_ble_eq_true rfl) dX8_takeNumber_10 (c_X8_here hI Rg Wt ha) (fun r M' h => ?_)
  obtain ⟨rfl, x1, f1⟩ := h
  refine jr_st (show _ = [.int (z_hv s (z_sp s a))] from rfl) ?_
  rw [hsp] at x1
  rw [hsp]
  refine jr_istore_n hg dX8_takeNumber_13 rfl (by decide) rfl ?_
  refine jr_aload_n hg 1 rfl rfl dX8_takeNumber_14 ?_
  refine jr_aload_n hg 1 rfl rfl dX8_takeNumber_15 ?_
  refine gf_X8_109 hg (hI 35 (by decide)) dX8_takeNumber_16 ?_
  refine jr_top (x1.2.2.2.1) ?_
  refine pf_X8_118 hg (hI 35 (by decide)) dX8_takeNumber_19 ?_
  refine jr_aload_n hg 1 rfl rfl dX8_takeNumber_22 ?_
  refine jr_iload_n hg 0 rfl rfl dX8_takeNumber_23 ?_
  refine jr_i2l hg _ dX8_takeNumber_24 rfl ?_
  refine jr_ldc2 hg wm_17_10 dX8_takeNumber_25 ?_
  refine jr_topl (show (48 : Int64) = lN 48 by decide) ?_
  refine jr_ldc2 hg wm_17_11 dX8_takeNumber_28 ?_
  refine jr_topl (show (57 : Int64) = lN 57 by decide) ?_
  refine jr_cS3v hg lk_X8_100 (by decide) (by decide) (Nat.le_of_ble_eq_true rfl) dX8_takeNumber_31 (c_X8_inW hI (z_hv s b) rfl (by decide) (by decide)) ?_
  refine jr_iconst hg (nI 1) dX8_takeNumber_34 (by decide) ?_
  refine jr_aload_n hg 1 rfl rfl dX8_takeNumber_35 ?_
  refine gf_X8_109 hg (hI 35 (by decide)) dX8_takeNumber_36 ?_
  refine jr_top (x1.2.2.2.1) ?_
  have hzw := z_hv_w Wt b
  by_cases hq : zwi 48 57 (z_hv s b) = true
  · rw [hq]
    rw [hq] at hzw
    obtain ⟨hbn, hbe1⟩ := z_ne_1 hzw.symm
    rw [hne] at hbe1
    refine jr_cV3v hg lk_X8_133 (hI 35 (by decide)) rfl rfl (by decide) (by decide) (Nat.le_of_ble_eq_true rfl) dX8_takeNumber_39 (c_want_t hI (x := 1) (y := b) x1.2.2.2.2.1) ?_
    refine jr_if_neN (tgt := 47) hg dX8_takeNumber_42 (by decide) (by omega) (fun h42 => ?_) (fun h => by omega)
    have ct129 : ∀ (M3 : mm_M) (d : Nat), b + d = e → zR_g s nl e 0 fp M3 → M3.1 35 5 = nI b → zft M M3 → mm_J g E mX8_takeNumber (fun v M' => (if nf = 0 then v = some (.int (nI (z_vv s b))) ∧ zR_g s nl e 0 fp M' else (∃ x : Nat, v = some (.int (nI x))) ∧ ∃ a1, a1 ≤ s 0 4 ∧ zR_g s nl a1 nf (nI b) M') ∧ zft M M') 129 [(0, .ref (E.1 35)), (1, .int (nI (zlo k))), (2, .int (nI (zhi k))), (4, .int (nI (z_vr s b d)))] [] (M3) := by
      intro M3 d hde hx hF hs
      have hvr := z_vr_le (s := s) (b := b) d (fun j hj => z_ne_fg (by rw [hne]; omega))
      refine jr_aload_n hg 0 rfl rfl dX8_takeNumber_129 ?_
      refine jr_aload_n hg 0 rfl rfl dX8_takeNumber_130 ?_
      refine gf_X8_109 hg (hI 35 (by decide)) dX8_takeNumber_131 ?_
      refine jr_top (hx.2.2.2.1) ?_
      refine jr_aload_n hg 0 rfl rfl dX8_takeNumber_134 ?_
      refine gf_X8_118 hg (hI 35 (by decide)) dX8_takeNumber_135 ?_
      refine jr_top (hF) ?_
      refine jr_isubN hg dX8_takeNumber_138 (by omega) ?_
      refine jr_iconst hg (nI 4) dX8_takeNumber_139 (by decide) ?_
      refine jr_icmp_geN (tgt := 160) hg dX8_takeNumber_140 (by decide) (by omega) (by omega) (fun h140 => ?_) (fun h140 => ?_)
      · refine jr_iconst hg (nI 0) dX8_takeNumber_160 (by decide) ?_
        refine jr_iconst hg (nI 2) dX8_takeNumber_161 (by decide) ?_
        refine jr_aload_n hg 0 rfl rfl dX8_takeNumber_162 ?_
        refine gf_X8_118 hg (hI 35 (by decide)) dX8_takeNumber_163 ?_
        refine jr_top (hF) ?_
        refine jr_cV3v hg lk_X8_133 (hI 35 (by decide)) rfl rfl (by decide) (by decide) (Nat.le_of_ble_eq_true rfl) dX8_takeNumber_166 (c_want_f hI (x := 2) (y := b) hx.2.2.2.2.1 (by decide) (by decide)) ?_
        refine jr_istore hg dX8_takeNumber_169 (by decide) rfl ?_
        refine jr_iload hg 4 rfl dX8_takeNumber_171 ?_
        exact jr_iret hg rfl dX8_takeNumber_173 (⟨by rw [show nf = 2 by rw [← hnf, z_nf_lg hne hde (by omega)], if_neg (by decide)]; exact ⟨⟨_, rfl⟩, e, he, hx.bl 2 b⟩, hs.bl 2 b⟩)
      · refine jr_iload hg 3 rfl dX8_takeNumber_143 ?_
        refine jr_i2l hg (lN _) dX8_takeNumber_145 (nI_l (by omega)) ?_
        refine jr_iload_n hg 1 rfl rfl dX8_takeNumber_146 ?_
        refine jr_i2l hg (lN _) dX8_takeNumber_147 (nI_l (by omega)) ?_
        refine jr_iload_n hg 2 rfl rfl dX8_takeNumber_148 ?_
        refine jr_i2l hg (lN _) dX8_takeNumber_149 (nI_l (by omega)) ?_
        refine jr_cS3v hg lk_X8_100 (by decide) (by decide) (Nat.le_of_ble_eq_true rfl) dX8_takeNumber_150 (c_in_n hI (by omega) (by omega) (by omega)) ?_
        refine jr_if_eqZ (tgt := 160) hg dX8_takeNumber_153 (by decide) (fun h153 => ?_) (fun h153 => ?_)
        · refine jr_iconst hg (nI 0) dX8_takeNumber_160 (by decide) ?_
          refine jr_iconst hg (nI 2) dX8_takeNumber_161 (by decide) ?_
          refine jr_aload_n hg 0 rfl rfl dX8_takeNumber_162 ?_
          refine gf_X8_118 hg (hI 35 (by decide)) dX8_takeNumber_163 ?_
          refine jr_top (hF) ?_
          refine jr_cV3v hg lk_X8_133 (hI 35 (by decide)) rfl rfl (by decide) (by decide) (Nat.le_of_ble_eq_true rfl) dX8_takeNumber_166 (c_want_f hI (x := 2) (y := b) hx.2.2.2.2.1 (by decide) (by decide)) ?_
          refine jr_istore hg dX8_takeNumber_169 (by decide) rfl ?_
          refine jr_iload hg 4 rfl dX8_takeNumber_171 ?_
          exact jr_iret hg rfl dX8_takeNumber_173 (⟨by rw [show nf = 2 by rw [← hnf, z_nf_bd hne hde (by omega) (by omega) (of_decide_eq_false h153)], if_neg (by decide)]; exact ⟨⟨_, rfl⟩, e, he, hx.bl 2 b⟩, hs.bl 2 b⟩)
        · refine jr_iconst hg (nI 1) dX8_takeNumber_156 (by decide) ?_
          refine jr_goto (tgt := 161) hg dX8_takeNumber_157 (by decide) ?_
          refine jr_iconst hg (nI 2) dX8_takeNumber_161 (by decide) ?_
          refine jr_aload_n hg 0 rfl rfl dX8_takeNumber_162 ?_
          refine gf_X8_118 hg (hI 35 (by decide)) dX8_takeNumber_163 ?_
          refine jr_top (hF) ?_
          refine jr_cV3v hg lk_X8_133 (hI 35 (by decide)) rfl rfl (by decide) (by decide) (Nat.le_of_ble_eq_true rfl) dX8_takeNumber_166 (c_want_t hI (x := 2) (y := b) hx.2.2.2.2.1) ?_
          refine jr_istore hg dX8_takeNumber_169 (by decide) rfl ?_
          refine jr_iload hg 4 rfl dX8_takeNumber_171 ?_
          exact jr_iret hg rfl dX8_takeNumber_173 (⟨by rw [show nf = 0 by rw [← hnf, z_nf_ok hne hde (by omega) (by omega) (of_decide_eq_true h153)], if_pos rfl]; exact ⟨by rw [z_vv_r hne hde (by omega)], hx⟩, hs⟩)
    refine jr_iconst hg (nI 0) dX8_takeNumber_47 (by decide) ?_
    refine jr_istore hg dX8_takeNumber_48 (by decide) rfl ?_
    have lp50 : ∀ d : Nat, d ≤ (s 0 4 - b) → ∀ M3, zR_g s nl (b + d) 0 fp M3 → M3.1 35 5 = nI b → zft M M3 → z_ne s (b + d) = e → mm_J g E mX8_takeNumber (fun v M' => (if nf = 0 then v = some (.int (nI (z_vv s b))) ∧ zR_g s nl e 0 fp M' else (∃ x : Nat, v = some (.int (nI x))) ∧ ∃ a1, a1 ≤ s 0 4 ∧ zR_g s nl a1 nf (nI b) M') ∧ zft M M') 50 [(0, .ref (E.1 35)), (1, .int (nI ((zlo k)))), (2, .int (nI ((zhi k)))), (4, .int (nI ((z_vr s b d))))] [] (M3) := by
      refine jr_up (S := fun d => ∀ M3, zR_g s nl (b + d) 0 fp M3 → M3.1 35 5 = nI b → zft M M3 → z_ne s (b + d) = e → mm_J g E mX8_takeNumber (fun v M' => (if nf = 0 then v = some (.int (nI (z_vv s b))) ∧ zR_g s nl e 0 fp M' else (∃ x : Nat, v = some (.int (nI x))) ∧ ∃ a1, a1 ≤ s 0 4 ∧ zR_g s nl a1 nf (nI b) M') ∧ zft M M') 50 [(0, .ref (E.1 35)), (1, .int (nI ((zlo k)))), (2, .int (nI ((zhi k)))), (4, .int (nI ((z_vr s b d))))] [] (M3)) (n := (s 0 4 - b)) ?_ ?_
      · intro M3 hx hF hs hz
        show mm_J g E mX8_takeNumber (fun v M' => (if nf = 0 then v = some (.int (nI (z_vv s b))) ∧ zR_g s nl e 0 fp M' else (∃ x : Nat, v = some (.int (nI x))) ∧ ∃ a1, a1 ≤ s 0 4 ∧ zR_g s nl a1 nf (nI b) M') ∧ zft M M') 50 [(0, .ref (E.1 35)), (1, .int (nI ((zlo k)))), (2, .int (nI ((zhi k)))), (4, .int (nI ((z_vr s b ((s 0 4 - b))))))] [] (M3)
        refine jr_aload_n hg 0 rfl rfl dX8_takeNumber_50 ?_
        refine gf_X8_109 hg (hI 35 (by decide)) dX8_takeNumber_51 ?_
        refine jr_top (hx.2.2.2.1) ?_
        refine jr_aload_n hg 0 rfl rfl dX8_takeNumber_54 ?_
        refine gf_X8_104 hg (hI 35 (by decide)) dX8_takeNumber_55 ?_
        refine jr_top (hx.1) ?_
        refine jr_icmp_geN (tgt := 129) hg dX8_takeNumber_58 (by decide) (by omega) (by omega) (fun h58 => ?_) (fun h => by omega)
        have hzd : b + (s 0 4 - b) = e := by rw [← hz, z_ne, z_ru_e (by omega)]
        exact jr_lv [0, 1, 2, 3] rfl (ct129 M3 (s 0 4 - b) hzd (by rw [← hzd]; exact hx) hF hs)
      · intro d hd ih M3 hx hF hs hz
        show mm_J g E mX8_takeNumber (fun v M' => (if nf = 0 then v = some (.int (nI (z_vv s b))) ∧ zR_g s nl e 0 fp M' else (∃ x : Nat, v = some (.int (nI x))) ∧ ∃ a1, a1 ≤ s 0 4 ∧ zR_g s nl a1 nf (nI b) M') ∧ zft M M') 50 [(0, .ref (E.1 35)), (1, .int (nI ((zlo k)))), (2, .int (nI ((zhi k)))), (4, .int (nI ((z_vr s b d))))] [] (M3)
        have hbk := Wt.2 (b + d) (by omega)
        have hde : b + d ≤ e := by rw [← hz]; exact z_ru_ge _ _ _
        have hvr := z_vr_le (s := s) (b := b) d (fun j hj => z_ne_fg (by rw [hne]; omega))
        refine jr_aload_n hg 0 rfl rfl dX8_takeNumber_50 ?_
        refine gf_X8_109 hg (hI 35 (by decide)) dX8_takeNumber_51 ?_
        refine jr_top (hx.2.2.2.1) ?_
        refine jr_aload_n hg 0 rfl rfl dX8_takeNumber_54 ?_
        refine gf_X8_104 hg (hI 35 (by decide)) dX8_takeNumber_55 ?_
        refine jr_top (hx.1) ?_
        refine jr_icmp_geN (tgt := 129) hg dX8_takeNumber_58 (by decide) (by omega) (by omega) (fun h => by omega) (fun h58 => ?_)
        refine jr_aload_n hg 0 rfl rfl dX8_takeNumber_61 ?_
        refine gf_X8_16 hg (hI 35 (by decide)) dX8_takeNumber_62 ?_
        refine jr_aload_n hg 0 rfl rfl dX8_takeNumber_65 ?_
        refine gf_X8_109 hg (hI 35 (by decide)) dX8_takeNumber_66 ?_
        refine jr_top (hx.2.2.2.1) ?_
        refine jr_ialdN hg (n := 160) (by omega) (by decide) (hI 38 (by decide)) (ac_38 _ _) dX8_takeNumber_69 ?_
        refine jr_top (hx.2.1 _ (by omega)) ?_
        refine jr_i2l hg (lN _) dX8_takeNumber_70 (nI_l (by omega)) ?_
        refine jr_ldc2 hg wm_17_10 dX8_takeNumber_71 ?_
        refine jr_topl (show (48 : Int64) = lN 48 by decide) ?_
        refine jr_ldc2 hg wm_17_11 dX8_takeNumber_74 ?_
        refine jr_topl (show (57 : Int64) = lN 57 by decide) ?_
        refine jr_cS3v hg lk_X8_100 (by decide) (by decide) (Nat.le_of_ble_eq_true rfl) dX8_takeNumber_77 (c_in_f hI (by omega)) ?_
        refine jr_if_eqZ (tgt := 129) hg dX8_takeNumber_80 (by decide) (fun h80 => ?_) (fun h80 => ?_)
        · have hzd : b + d = e := by rw [← hz, z_ne, z_ru_f (P := z_fg s) h80]
          exact jr_lv [0, 1, 2, 3] rfl (ct129 M3 d hzd (by rw [← hzd]; exact hx) hF hs)
        · refine jr_iload hg 3 rfl dX8_takeNumber_83 ?_
          refine jr_sipush hg (nI 999) dX8_takeNumber_85 (by decide) ?_
          refine jr_icmp_leN (tgt := 96) hg dX8_takeNumber_88 (by decide) (by omega) (by omega) (fun h88 => ?_) (fun h88 => ?_)
          · have hfg := of_decide_eq_true (p := 48 ≤ s 11 (b + d) ∧ s 11 (b + d) ≤ 57) h80
            refine jr_bipush hg (nI 10) dX8_takeNumber_96 (by decide) ?_
            refine jr_iload hg 3 rfl dX8_takeNumber_98 ?_
            refine jr_imulN hg dX8_takeNumber_100 ?_
            refine jr_aload_n hg 0 rfl rfl dX8_takeNumber_101 ?_
            refine gf_X8_16 hg (hI 35 (by decide)) dX8_takeNumber_102 ?_
            refine jr_aload_n hg 0 rfl rfl dX8_takeNumber_105 ?_
            refine gf_X8_109 hg (hI 35 (by decide)) dX8_takeNumber_106 ?_
            refine jr_top (hx.2.2.2.1) ?_
            refine jr_ialdN hg (n := 160) (by omega) (by decide) (hI 38 (by decide)) (ac_38 _ _) dX8_takeNumber_109 ?_
            refine jr_top (hx.2.1 _ (by omega)) ?_
            refine jr_iaddN hg dX8_takeNumber_110 ?_
            refine jr_bipush hg (nI 48) dX8_takeNumber_111 (by decide) ?_
            refine jr_isubN hg dX8_takeNumber_113 (by omega) ?_
            refine jr_istore hg dX8_takeNumber_114 (by decide) rfl ?_
            refine jr_aload_n hg 1 rfl rfl dX8_takeNumber_116 ?_
            refine jr_dup hg dX8_takeNumber_117 rfl ?_
            refine gf_X8_109 hg (hI 35 (by decide)) dX8_takeNumber_118 ?_
            refine jr_top (hx.2.2.2.1) ?_
            refine jr_iconst hg (nI 1) dX8_takeNumber_121 (by decide) ?_
            refine jr_iaddN hg dX8_takeNumber_122 ?_
            refine pf_X8_109 hg (hI 35 (by decide)) dX8_takeNumber_123 ?_
            refine jr_goto (tgt := 50) hg dX8_takeNumber_126 (by decide) ?_
            have e1 : z_vr s b (d + 1) = 10 * z_vr s b d + s 11 (b + d) - 48 := by rw [z_vr, if_neg (by omega)]
            rw [e1] at ih
            exact jr_lv [1, 2, 3, 0] rfl (ih _ (hx.pl (b + d + 1)) hF (hs.fl (by decide)) ((z_ru_t (P := z_fg s) (show b + d < s 0 4 by omega) h80).symm.trans hz))
          · refine jr_iload hg 3 rfl dX8_takeNumber_91 ?_
            refine jr_goto (tgt := 114) hg dX8_takeNumber_93 (by decide) ?_
            refine jr_istore hg dX8_takeNumber_114 (by decide) rfl ?_
            refine jr_aload_n hg 1 rfl rfl dX8_takeNumber_116 ?_
            refine jr_dup hg dX8_takeNumber_117 rfl ?_
            refine gf_X8_109 hg (hI 35 (by decide)) dX8_takeNumber_118 ?_
            refine jr_top (hx.2.2.2.1) ?_
            refine jr_iconst hg (nI 1) dX8_takeNumber_121 (by decide) ?_
            refine jr_iaddN hg dX8_takeNumber_122 ?_
            refine pf_X8_109 hg (hI 35 (by decide)) dX8_takeNumber_123 ?_
            refine jr_goto (tgt := 50) hg dX8_takeNumber_126 (by decide) ?_
            have e1 : z_vr s b (d + 1) = z_vr s b d := by rw [z_vr, if_pos (by omega)]
            rw [e1] at ih
            exact jr_lv [1, 2, 3, 0] rfl (ih _ (hx.pl (b + d + 1)) hF (hs.fl (by decide)) ((z_ru_t (P := z_fg s) (show b + d < s 0 4 by omega) h80).symm.trans hz))
    exact jr_lv [2, 3, 4, 0] rfl (lp50 0 (by omega) _ (x1.fr (nI b)) rfl (f1.fl (by decide)) hne)
  · have hq : zwi 48 57 (z_hv s b) = false := by simpa using hq
    rw [hq]
    rw [hq] at hzw
    have hn1 : nf = 1 := by rw [← hnf, z_nf_1 (z_ne_0 hzw.symm)]
    refine jr_cV3v hg lk_X8_133 (hI 35 (by decide)) rfl rfl (by decide) (by decide) (Nat.le_of_ble_eq_true rfl) dX8_takeNumber_39 (c_want_f hI (x := 1) (y := b) x1.2.2.2.2.1 (by decide) (by decide)) ?_
    refine jr_if_neN (tgt := 47) hg dX8_takeNumber_42 (by decide) (by omega) (fun h => by omega) (fun h42 => ?_)
    refine jr_iconst hg (nI 0) dX8_takeNumber_45 (by decide) ?_
    exact jr_iret hg rfl dX8_takeNumber_46 (⟨by rw [hn1, if_neg (by decide)]; exact ⟨⟨0, rfl⟩, b, hb, (x1.fr (nI b)).bl 1 b⟩, (f1.fl (by decide)).bl 1 b⟩)

set_option maxRecDepth 100000 in
theorem c_X8_atFirst {E : mm_E} (hI : mm_FR E) {M : mm_M} {k : Nat} (hk : k < 8) : mm_Cal E mX8_atFirst [.int (nI k)] M (ret1 (.int (nI (zfi k))) M) := by
  refine jr_entry RX8 (by decide +kernel) (Nat.le_of_ble_eq_true rfl) (fun g hg => ?_)
  refine jr_lv (lv' := [(0, .int (nI k))]) [0] rfl ?_
  refine jr_iload_n hg 0 rfl rfl dX8_atFirst_0 ?_
  refine jr_if_eqN (tgt := 9) hg dX8_atFirst_1 (by decide) (by omega) (fun h1 => ?_) (fun h1 => ?_)
  · refine jr_bipush hg (nI 90) dX8_atFirst_9 (by decide) ?_
    refine jr_goto (tgt := 65) hg dX8_atFirst_11 (by decide) ?_
    exact jr_iret hg rfl dX8_atFirst_65 (⟨by rw [show k = 0 by omega]; rfl, rfl⟩)
  · refine jr_iload_n hg 0 rfl rfl dX8_atFirst_4 ?_
    refine jr_iconst hg (nI 4) dX8_atFirst_5 (by decide) ?_
    refine jr_icmp_neN (tgt := 14) hg dX8_atFirst_6 (by decide) (by omega) (by omega) (fun h6 => ?_) (fun h6 => ?_)
    · refine jr_iload_n hg 0 rfl rfl dX8_atFirst_14 ?_
      refine jr_iconst hg (nI 1) dX8_atFirst_15 (by decide) ?_
      refine jr_icmp_neN (tgt := 24) hg dX8_atFirst_16 (by decide) (by omega) (by omega) (fun h16 => ?_) (fun h16 => ?_)
      · refine jr_iload_n hg 0 rfl rfl dX8_atFirst_24 ?_
        refine jr_iconst hg (nI 2) dX8_atFirst_25 (by decide) ?_
        refine jr_icmp_neN (tgt := 34) hg dX8_atFirst_26 (by decide) (by omega) (by omega) (fun h26 => ?_) (fun h26 => ?_)
        · refine jr_iload_n hg 0 rfl rfl dX8_atFirst_34 ?_
          refine jr_iconst hg (nI 3) dX8_atFirst_35 (by decide) ?_
          refine jr_icmp_neN (tgt := 43) hg dX8_atFirst_36 (by decide) (by omega) (by omega) (fun h36 => ?_) (fun h36 => ?_)
          · refine jr_iload_n hg 0 rfl rfl dX8_atFirst_43 ?_
            refine jr_iconst hg (nI 5) dX8_atFirst_44 (by decide) ?_
            refine jr_icmp_neN (tgt := 53) hg dX8_atFirst_45 (by decide) (by omega) (by omega) (fun h45 => ?_) (fun h45 => ?_)
            · refine jr_iload_n hg 0 rfl rfl dX8_atFirst_53 ?_
              refine jr_bipush hg (nI 6) dX8_atFirst_54 (by decide) ?_
              refine jr_icmp_neN (tgt := 63) hg dX8_atFirst_56 (by decide) (by omega) (by omega) (fun h56 => ?_) (fun h56 => ?_)
              · refine jr_bipush hg (nI 95) dX8_atFirst_63 (by decide) ?_
                exact jr_iret hg rfl dX8_atFirst_65 (⟨by rw [show k = 7 by omega]; rfl, rfl⟩)
              · refine jr_iconst hg (nI 3) dX8_atFirst_59 (by decide) ?_
                refine jr_goto (tgt := 65) hg dX8_atFirst_60 (by decide) ?_
                exact jr_iret hg rfl dX8_atFirst_65 (⟨by rw [show k = 6 by omega]; rfl, rfl⟩)
            · refine jr_bipush hg (nI 8) dX8_atFirst_48 (by decide) ?_
              refine jr_goto (tgt := 65) hg dX8_atFirst_50 (by decide) ?_
              exact jr_iret hg rfl dX8_atFirst_65 (⟨by rw [show k = 5 by omega]; rfl, rfl⟩)
          · refine jr_iconst hg (nI 5) dX8_atFirst_39 (by decide) ?_
            refine jr_goto (tgt := 65) hg dX8_atFirst_40 (by decide) ?_
            exact jr_iret hg rfl dX8_atFirst_65 (⟨by rw [show k = 3 by omega]; rfl, rfl⟩)
        · refine jr_bipush hg (nI 30) dX8_atFirst_29 (by decide) ?_
          refine jr_goto (tgt := 65) hg dX8_atFirst_31 (by decide) ?_
          exact jr_iret hg rfl dX8_atFirst_65 (⟨by rw [show k = 2 by omega]; rfl, rfl⟩)
      · refine jr_bipush hg (nI 60) dX8_atFirst_19 (by decide) ?_
        refine jr_goto (tgt := 65) hg dX8_atFirst_21 (by decide) ?_
        exact jr_iret hg rfl dX8_atFirst_65 (⟨by rw [show k = 1 by omega]; rfl, rfl⟩)
    · refine jr_bipush hg (nI 90) dX8_atFirst_9 (by decide) ?_
      refine jr_goto (tgt := 65) hg dX8_atFirst_11 (by decide) ?_
      exact jr_iret hg rfl dX8_atFirst_65 (⟨by rw [show k = 4 by omega]; rfl, rfl⟩)
