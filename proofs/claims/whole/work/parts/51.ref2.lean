theorem zsub_ge {a b : Nat} (ha : a < 2 ^ 30) (hb : b < 2 ^ 30) : 0 ≤ nI a - nI b ↔ b ≤ a := by
  rw [Int32.le_iff_toInt_le, pk_sub_toInt ha hb, Int32.toInt_zero]; omega
theorem z_an_f {s : zS} {l p : Nat} : z_an s l p = 0 ↔ zfind (z_at s l p) (s 0 2) = 0 := by
  by_cases e : zfind (z_at s l p) (s 0 2) = 0
  · simp [z_an, e]
  · simp only [z_an, if_neg e]; exact ⟨fun q => by omega, fun q => absurd q e⟩
theorem zfind_lt {s : zS} (h : zW_k s) (l p : Nat) : zfind (z_at s l p) (s 0 2) < 2 ^ 31 := by
  have := zfind_le (z_at s l p) (s 0 2)
  have := h.1
  omega

set_option maxRecDepth 100000 in
theorem c_X8_eyeOf {E : mm_E} (hI : mm_FR E) {M : mm_M} {s : zS} (hR : zR s M) (hW : zW s) {l : Nat} (hl : l < s 0 1) {p : Nat} (hp : p < s 0 0) : mm_Cal E mX8_eyeOf [.ref (E.1 35), .int (nI l), .int (nI p)] M (ret1 (.int (nI (z_eye s l p))) M) := by
  obtain ⟨Rp, Rl, Rk, Rw, Rt, Rd, Ro, Rq⟩ := hR
  obtain ⟨Wp, Wl, Wk, Ww, Wt, Wd, Wo, Wq⟩ := hW
  have hnp := Wp.1
  have hnl := Wl.1
  have hnk := Wk.1
  have rall : zR s M := ⟨Rp, Rl, Rk, Rw, Rt, Rd, Ro, Rq⟩
  have wall : zW s := ⟨Wp, Wl, Wk, Ww, Wt, Wd, Wo, Wq⟩
  have w0 := zW_w100 Ww 0 (by decide)
  have w1 := zW_w100 Ww 1 (by decide)
  have w3 := zW_w100 Ww 3 (by decide)
  have g2 := zcnt_le (z_by s l) (s 0 2)
  have f0 := (Wp.2 p hp).2.1
  have f1 := (Wp.2 p hp).2.2.1
  have f2 := Wl.2 l hl
  have f3 : s 10 3 * zcnt (z_by s l) (s 0 2) ≤ 100 * 200 := Nat.mul_le_mul w3 (by omega)
  refine jr_entry RX8 (by decide +kernel) (Nat.le_of_ble_eq_true rfl) (fun g hg => ?_)
  refine jr_lv (lv' := [(0, .ref (E.1 35)), (1, .int (nI l)), (2, .int (nI p))]) [0, 1, 2] rfl ?_
  refine jr_aload_n hg 0 rfl rfl dX8_eyeOf_0 ?_
  refine gf_X8_39 hg (hI 35 (by decide)) dX8_eyeOf_1 ?_
  refine jr_iload_n hg 1 rfl rfl dX8_eyeOf_4 ?_
  refine jr_ialdN hg (n := 8) (by omega) (by decide) (hI 44 (by decide)) (ac_44 _ _) dX8_eyeOf_5 ?_
  refine jr_top (Rl.2 _ (by omega)) ?_
  refine jr_iconst hg (nI 4) dX8_eyeOf_6 (by decide) ?_
  refine jr_icmp_neN (tgt := 28) hg dX8_eyeOf_7 (by decide) (by omega) (by omega) (fun h7 => ?_) (fun h7 => ?_)
  · refine jr_aload_n hg 0 rfl rfl dX8_eyeOf_28 ?_
    refine gf_X8_26 hg (hI 35 (by decide)) dX8_eyeOf_29 ?_
    refine jr_iload_n hg 2 rfl rfl dX8_eyeOf_32 ?_
    refine jr_ialdN hg (n := 24) (by omega) (by decide) (hI 40 (by decide)) (ac_40 _ _) dX8_eyeOf_33 ?_
    refine jr_top ((Rp.2 _ (by omega)).2.1) ?_
    refine jr_iconst hg (nI 1) dX8_eyeOf_34 (by decide) ?_
    refine jr_icmp_neN (tgt := 47) hg dX8_eyeOf_35 (by decide) (by omega) (by omega) (fun h35 => ?_) (fun h35 => ?_)
    · refine jr_aload_n hg 0 rfl rfl dX8_eyeOf_47 ?_
      refine gf_X8_7 hg (hI 35 (by decide)) dX8_eyeOf_48 ?_
      refine jr_iconst hg (nI 0) dX8_eyeOf_51 (by decide) ?_
      refine jr_ialdN hg (n := 8) (by omega) (by decide) (hI 36 (by decide)) (ac_36 _ _) dX8_eyeOf_52 ?_
      refine jr_top (Rw _ (by omega)) ?_
      refine jr_istore_n hg dX8_eyeOf_53 rfl (by decide) rfl ?_
      refine jr_iload_n hg 0 rfl rfl dX8_eyeOf_54 ?_
      refine jr_aload_n hg 1 rfl rfl dX8_eyeOf_55 ?_
      refine gf_X8_39 hg (hI 35 (by decide)) dX8_eyeOf_56 ?_
      refine jr_iload_n hg 2 rfl rfl dX8_eyeOf_59 ?_
      refine jr_ialdN hg (n := 8) (by omega) (by decide) (hI 44 (by decide)) (ac_44 _ _) dX8_eyeOf_60 ?_
      refine jr_top (Rl.2 _ (by omega)) ?_
      refine jr_iconst hg (nI 2) dX8_eyeOf_61 (by decide) ?_
      refine jr_icmp_neN (tgt := 80) hg dX8_eyeOf_62 (by decide) (by omega) (by omega) (fun h62 => ?_) (fun h62 => ?_)
      · refine jr_iconst hg (nI 0) dX8_eyeOf_80 (by decide) ?_
        refine jr_isubN hg dX8_eyeOf_81 (by omega) ?_
        refine jr_istore_n hg dX8_eyeOf_82 rfl (by decide) rfl ?_
        refine jr_iload_n hg 0 rfl rfl dX8_eyeOf_83 ?_
        refine jr_if_geN hg dX8_eyeOf_84 (tgt := 91) (by decide) (by omega) ?_
        refine jr_iload_n hg 0 rfl rfl dX8_eyeOf_91 ?_
        exact jr_iret hg rfl dX8_eyeOf_92 (⟨by rw [z_eye, if_neg h7, if_neg h62, if_neg (by omega)]; rfl, rfl⟩)
      · refine jr_aload_n hg 1 rfl rfl dX8_eyeOf_65 ?_
        refine gf_X8_7 hg (hI 35 (by decide)) dX8_eyeOf_66 ?_
        refine jr_iconst hg (nI 3) dX8_eyeOf_69 (by decide) ?_
        refine jr_ialdN hg (n := 8) (by omega) (by decide) (hI 36 (by decide)) (ac_36 _ _) dX8_eyeOf_70 ?_
        refine jr_top (Rw _ (by omega)) ?_
        refine jr_aload_n hg 1 rfl rfl dX8_eyeOf_71 ?_
        refine jr_iload_n hg 2 rfl rfl dX8_eyeOf_72 ?_
        refine jr_cV1v hg lk_X8_229 (hI 35 (by decide)) rfl rfl (by decide) (by decide) (Nat.le_of_ble_eq_true rfl) dX8_eyeOf_73 (c_X8_looksBy hI rall wall hl) ?_
        refine jr_imulN hg dX8_eyeOf_76 ?_
        refine jr_goto (tgt := 81) hg dX8_eyeOf_77 (by decide) ?_
        refine jr_isub hg dX8_eyeOf_81 ?_
        refine jr_istore_n hg dX8_eyeOf_82 rfl (by decide) rfl ?_
        refine jr_iload_n hg 0 rfl rfl dX8_eyeOf_83 ?_
        refine jr_if_ge (tgt := 91) hg dX8_eyeOf_84 (by decide) (fun h84 => ?_) (fun h84 => ?_)
        · refine jr_iload_n hg 0 rfl rfl dX8_eyeOf_91 ?_
          exact jr_iret hg rfl dX8_eyeOf_92 (⟨by rw [z_eye, if_neg h7, if_pos h62, if_neg (by omega), pk_sub ((zsub_ge (by omega) (by omega)).mp h84)], rfl⟩)
        · refine jr_iconst hg (nI 0) dX8_eyeOf_87 (by decide) ?_
          refine jr_goto (tgt := 92) hg dX8_eyeOf_88 (by decide) ?_
          exact jr_iret hg rfl dX8_eyeOf_92 (⟨by rw [z_eye, if_neg h7, if_pos h62, if_neg (by omega), Nat.sub_eq_zero_of_le (Nat.le_of_not_le (fun q => h84 ((zsub_ge (by omega) (by omega)).mpr q)))], rfl⟩)
    · refine jr_aload_n hg 0 rfl rfl dX8_eyeOf_38 ?_
      refine gf_X8_7 hg (hI 35 (by decide)) dX8_eyeOf_39 ?_
      refine jr_iconst hg (nI 1) dX8_eyeOf_42 (by decide) ?_
      refine jr_ialdN hg (n := 8) (by omega) (by decide) (hI 36 (by decide)) (ac_36 _ _) dX8_eyeOf_43 ?_
      refine jr_top (Rw _ (by omega)) ?_
      refine jr_goto (tgt := 53) hg dX8_eyeOf_44 (by decide) ?_
      refine jr_istore_n hg dX8_eyeOf_53 rfl (by decide) rfl ?_
      refine jr_iload_n hg 0 rfl rfl dX8_eyeOf_54 ?_
      refine jr_aload_n hg 1 rfl rfl dX8_eyeOf_55 ?_
      refine gf_X8_39 hg (hI 35 (by decide)) dX8_eyeOf_56 ?_
      refine jr_iload_n hg 2 rfl rfl dX8_eyeOf_59 ?_
      refine jr_ialdN hg (n := 8) (by omega) (by decide) (hI 44 (by decide)) (ac_44 _ _) dX8_eyeOf_60 ?_
      refine jr_top (Rl.2 _ (by omega)) ?_
      refine jr_iconst hg (nI 2) dX8_eyeOf_61 (by decide) ?_
      refine jr_icmp_neN (tgt := 80) hg dX8_eyeOf_62 (by decide) (by omega) (by omega) (fun h62 => ?_) (fun h62 => ?_)
      · refine jr_iconst hg (nI 0) dX8_eyeOf_80 (by decide) ?_
        refine jr_isubN hg dX8_eyeOf_81 (by omega) ?_
        refine jr_istore_n hg dX8_eyeOf_82 rfl (by decide) rfl ?_
        refine jr_iload_n hg 0 rfl rfl dX8_eyeOf_83 ?_
        refine jr_if_geN hg dX8_eyeOf_84 (tgt := 91) (by decide) (by omega) ?_
        refine jr_iload_n hg 0 rfl rfl dX8_eyeOf_91 ?_
        exact jr_iret hg rfl dX8_eyeOf_92 (⟨by rw [z_eye, if_neg h7, if_neg h62, if_pos (by omega)]; rfl, rfl⟩)
      · refine jr_aload_n hg 1 rfl rfl dX8_eyeOf_65 ?_
        refine gf_X8_7 hg (hI 35 (by decide)) dX8_eyeOf_66 ?_
        refine jr_iconst hg (nI 3) dX8_eyeOf_69 (by decide) ?_
        refine jr_ialdN hg (n := 8) (by omega) (by decide) (hI 36 (by decide)) (ac_36 _ _) dX8_eyeOf_70 ?_
        refine jr_top (Rw _ (by omega)) ?_
        refine jr_aload_n hg 1 rfl rfl dX8_eyeOf_71 ?_
        refine jr_iload_n hg 2 rfl rfl dX8_eyeOf_72 ?_
        refine jr_cV1v hg lk_X8_229 (hI 35 (by decide)) rfl rfl (by decide) (by decide) (Nat.le_of_ble_eq_true rfl) dX8_eyeOf_73 (c_X8_looksBy hI rall wall hl) ?_
        refine jr_imulN hg dX8_eyeOf_76 ?_
        refine jr_goto (tgt := 81) hg dX8_eyeOf_77 (by decide) ?_
        refine jr_isub hg dX8_eyeOf_81 ?_
        refine jr_istore_n hg dX8_eyeOf_82 rfl (by decide) rfl ?_
        refine jr_iload_n hg 0 rfl rfl dX8_eyeOf_83 ?_
        refine jr_if_ge (tgt := 91) hg dX8_eyeOf_84 (by decide) (fun h84 => ?_) (fun h84 => ?_)
        · refine jr_iload_n hg 0 rfl rfl dX8_eyeOf_91 ?_
          exact jr_iret hg rfl dX8_eyeOf_92 (⟨by rw [z_eye, if_neg h7, if_pos h62, if_pos (by omega), pk_sub ((zsub_ge (by omega) (by omega)).mp h84)], rfl⟩)
        · refine jr_iconst hg (nI 0) dX8_eyeOf_87 (by decide) ?_
          refine jr_goto (tgt := 92) hg dX8_eyeOf_88 (by decide) ?_
          exact jr_iret hg rfl dX8_eyeOf_92 (⟨by rw [z_eye, if_neg h7, if_pos h62, if_pos (by omega), Nat.sub_eq_zero_of_le (Nat.le_of_not_le (fun q => h84 ((zsub_ge (by omega) (by omega)).mpr q)))], rfl⟩)
  · refine jr_aload_n hg 0 rfl rfl dX8_eyeOf_10 ?_
    refine gf_X8_29 hg (hI 35 (by decide)) dX8_eyeOf_11 ?_
    refine jr_iload_n hg 2 rfl rfl dX8_eyeOf_14 ?_
    refine jr_ialdN hg (n := 24) (by omega) (by decide) (hI 41 (by decide)) (ac_41 _ _) dX8_eyeOf_15 ?_
    refine jr_top ((Rp.2 _ (by omega)).2.2.1) ?_
    refine jr_iconst hg (nI 4) dX8_eyeOf_16 (by decide) ?_
    refine jr_icmp_gtN (tgt := 25) hg dX8_eyeOf_17 (by decide) (by omega) (by omega) (fun h17 => ?_) (fun h17 => ?_)
    · refine jr_bipush hg (nI 34) dX8_eyeOf_25 (by decide) ?_
      exact jr_iret hg rfl dX8_eyeOf_27 (⟨by rw [z_eye, if_pos h7, if_neg (by omega)], rfl⟩)
    · refine jr_bipush hg (nI 100) dX8_eyeOf_20 (by decide) ?_
      refine jr_goto (tgt := 27) hg dX8_eyeOf_22 (by decide) ?_
      exact jr_iret hg rfl dX8_eyeOf_27 (⟨by rw [z_eye, if_pos h7, if_pos (by omega)], rfl⟩)

theorem zR_p_s {s : zS} {M : mm_M} {d : Nat} (h : zR_p s M) : zR_p s (zseedR M d) := h
theorem zR_l_s {s : zS} {M : mm_M} {d : Nat} (h : zR_l s M) : zR_l s (zseedR M d) := h
theorem zR_w_s {s : zS} {M : mm_M} {d : Nat} (h : zR_w s M) : zR_w s (zseedR M d) := h

set_option maxRecDepth 100000 in
theorem c_X8_saidOf {E : mm_E} (hI : mm_FR E) {M : mm_M} {s : zS} (hR : zR s M) (hW : zW s) {l : Nat} (hl : l < s 0 1) {p : Nat} (hp : p < s 0 0) : mm_Cal E mX8_saidOf [.ref (E.1 35), .int (nI l), .int (nI p)] M (ret1 (.int (nI (z_said s l p (s 0 3)).1)) (zseedR M (z_said s l p (s 0 3)).2)) := by
  obtain ⟨Rp, Rl, Rk, Rw, Rt, Rd, Ro, Rq⟩ := hR
  obtain ⟨Wp, Wl, Wk, Ww, Wt, Wd, Wo, Wq⟩ := hW
  have hnp := Wp.1
  have hnl := Wl.1
  have hnk := Wk.1
  have rall : zR s M := ⟨Rp, Rl, Rk, Rw, Rt, Rd, Ro, Rq⟩
  have wall : zW s := ⟨Wp, Wl, Wk, Ww, Wt, Wd, Wo, Wq⟩
  have hd0 : s 0 3 < 2 ^ 31 := Wd
  have he := z_eye_le Ww l p
  have hv := z_dv_lt (z_sd (s 0 3))
  have hv2 := z_dv_lt (z_sd (z_sd (s 0 3)))
  have hv3 := z_dv_lt (z_sd (z_sd (z_sd (s 0 3))))
  have hs1 := z_sd_lt (s 0 3)
  have hs2 := z_sd_lt (z_sd (s 0 3))
  have w2 := zW_w100 Ww 2 (by decide)
  have f2 := Wl.2 l hl
  have f1 := (Wp.2 p hp).2.2.1
  have f0 := (Wp.2 p hp).2.1
  have fk := (Wp.2 p hp).1
  refine jr_entry RX8 (by decide +kernel) (Nat.le_of_ble_eq_true rfl) (fun g hg => ?_)
  refine jr_lv (lv' := [(0, .ref (E.1 35)), (1, .int (nI l)), (2, .int (nI p))]) [0, 1, 2] rfl ?_
  refine jr_aload_n hg 0 rfl rfl dX8_saidOf_0 ?_
  refine gf_X8_39 hg (hI 35 (by decide)) dX8_saidOf_1 ?_
  refine jr_iload_n hg 1 rfl rfl dX8_saidOf_4 ?_
  refine jr_ialdN hg (n := 8) (by omega) (by decide) (hI 44 (by decide)) (ac_44 _ _) dX8_saidOf_5 ?_
  refine jr_top (Rl.2 _ (by omega)) ?_
  refine jr_iconst hg (nI 5) dX8_saidOf_6 (by decide) ?_
  refine jr_icmp_neN (tgt := 23) hg dX8_saidOf_7 (by decide) (by omega) (by omega) (fun h7 => ?_) (fun h7 => ?_)
  · refine jr_aload_n hg 0 rfl rfl dX8_saidOf_23 ?_
    refine gf_X8_39 hg (hI 35 (by decide)) dX8_saidOf_24 ?_
    refine jr_iload_n hg 1 rfl rfl dX8_saidOf_27 ?_
    refine jr_ialdN hg (n := 8) (by omega) (by decide) (hI 44 (by decide)) (ac_44 _ _) dX8_saidOf_28 ?_
    refine jr_top (Rl.2 _ (by omega)) ?_
    refine jr_iconst hg (nI 3) dX8_saidOf_29 (by decide) ?_
    refine jr_icmp_neN (tgt := 40) hg dX8_saidOf_30 (by decide) (by omega) (by omega) (fun h30 => ?_) (fun h30 => ?_)
    · refine jr_aload_n hg 0 rfl rfl dX8_saidOf_40 ?_
      refine jr_iload_n hg 1 rfl rfl dX8_saidOf_41 ?_
      refine jr_iload_n hg 2 rfl rfl dX8_saidOf_42 ?_
      refine jr_cV2v hg lk_X8_235 (hI 35 (by decide)) rfl rfl (by decide) (by decide) (Nat.le_of_ble_eq_true rfl) dX8_saidOf_43 (c_X8_eyeOf hI rall wall hl hp) ?_
      refine jr_istore_n hg dX8_saidOf_46 rfl (by decide) rfl ?_
      refine jr_aload_n hg 1 rfl rfl dX8_saidOf_47 ?_
      refine jr_cV0v hg lk_X8_232 (hI 35 (by decide)) rfl rfl (by decide) (by decide) (Nat.le_of_ble_eq_true rfl) dX8_saidOf_48 (c_X8_draw hI Rd Wd) ?_
      have Rp := zR_p_s (d := (z_sd (s 0 3))) Rp
      have Rl := zR_l_s (d := (z_sd (s 0 3))) Rl
      have Rw := zR_w_s (d := (z_sd (s 0 3))) Rw
      refine jr_iload_n hg 0 rfl rfl dX8_saidOf_51 ?_
      refine jr_icmp_geN (tgt := 64) hg dX8_saidOf_52 (by decide) (by omega) (by omega) (fun h52 => ?_) (fun h52 => ?_)
      · refine jr_aload_n hg 1 rfl rfl dX8_saidOf_64 ?_
        refine gf_X8_26 hg (hI 35 (by decide)) dX8_saidOf_65 ?_
        refine jr_iload_n hg 3 rfl rfl dX8_saidOf_68 ?_
        refine jr_ialdN hg (n := 24) (by omega) (by decide) (hI 40 (by decide)) (ac_40 _ _) dX8_saidOf_69 ?_
        refine jr_top ((Rp.2 _ (by omega)).2.1) ?_
        refine jr_iconst hg (nI 1) dX8_saidOf_70 (by decide) ?_
        refine jr_icmp_neN (tgt := 78) hg dX8_saidOf_71 (by decide) (by omega) (by omega) (fun h71 => ?_) (fun h71 => ?_)
        · refine jr_aload_n hg 1 rfl rfl dX8_saidOf_78 ?_
          refine jr_cV0v hg lk_X8_232 (hI 35 (by decide)) rfl rfl (by decide) (by decide) (Nat.le_of_ble_eq_true rfl) dX8_saidOf_79 (c_X8_draw (d := (z_sd (s 0 3))) hI rfl hs1) ?_
          have Rp := zR_p_s (d := (z_sd (z_sd (s 0 3)))) Rp
          have Rl := zR_l_s (d := (z_sd (z_sd (s 0 3)))) Rl
          have Rw := zR_w_s (d := (z_sd (z_sd (s 0 3)))) Rw
          refine jr_iconst hg (nI 3) dX8_saidOf_82 (by decide) ?_
          refine jr_iremN hg dX8_saidOf_83 (by omega) (by omega) (by omega) ?_
          have hseen : z_seen s p (z_eye s l p) (s 0 3) = (z_dv (z_sd (z_sd (s 0 3))) % 3, (z_sd (z_sd (s 0 3)))) := by rw [z_seen, if_neg (by omega), if_neg h71]
          refine jr_istore hg dX8_saidOf_84 (by decide) rfl ?_
          refine jr_aload_n hg 2 rfl rfl dX8_saidOf_86 ?_
          refine gf_X8_39 hg (hI 35 (by decide)) dX8_saidOf_87 ?_
          refine jr_iload_n hg 3 rfl rfl dX8_saidOf_90 ?_
          refine jr_ialdN hg (n := 8) (by omega) (by decide) (hI 44 (by decide)) (ac_44 _ _) dX8_saidOf_91 ?_
          refine jr_top (Rl.2 _ (by omega)) ?_
          refine jr_iconst hg (nI 1) dX8_saidOf_92 (by decide) ?_
          refine jr_icmp_neN (tgt := 122) hg dX8_saidOf_93 (by decide) (by omega) (by omega) (fun h93 => ?_) (fun h93 => ?_)
          · refine jr_iload hg 0 rfl dX8_saidOf_122 ?_
            exact jr_iret hg rfl dX8_saidOf_124 (by rw [z_said, if_neg (by omega), if_neg h30, if_neg (fun q => h93 q.1), hseen]; exact ⟨rfl, zseedR_2 _ _ _⟩)
          · refine jr_iload hg 0 rfl dX8_saidOf_96 ?_
            refine jr_iconst hg (nI 2) dX8_saidOf_98 (by decide) ?_
            refine jr_icmp_neN (tgt := 122) hg dX8_saidOf_99 (by decide) (by omega) (by omega) (fun h99 => ?_) (fun h99 => ?_)
            · refine jr_iload hg 0 rfl dX8_saidOf_122 ?_
              exact jr_iret hg rfl dX8_saidOf_124 (by rw [z_said, if_neg (by omega), if_neg h30, if_neg (fun q => h99 (by rw [hseen] at q; exact q.2)), hseen]; exact ⟨rfl, zseedR_2 _ _ _⟩)
            · refine jr_aload_n hg 2 rfl rfl dX8_saidOf_102 ?_
              refine jr_cV0v hg lk_X8_232 (hI 35 (by decide)) rfl rfl (by decide) (by decide) (Nat.le_of_ble_eq_true rfl) dX8_saidOf_103 (c_X8_draw (d := (z_sd (z_sd (s 0 3)))) hI rfl hs2) ?_
              have Rp := zR_p_s (d := (z_sd (z_sd (z_sd (s 0 3))))) Rp
              have Rl := zR_l_s (d := (z_sd (z_sd (z_sd (s 0 3))))) Rl
              have Rw := zR_w_s (d := (z_sd (z_sd (z_sd (s 0 3))))) Rw
              refine jr_aload_n hg 2 rfl rfl dX8_saidOf_106 ?_
              refine gf_X8_7 hg (hI 35 (by decide)) dX8_saidOf_107 ?_
              refine jr_iconst hg (nI 2) dX8_saidOf_110 (by decide) ?_
              refine jr_ialdN hg (n := 8) (by omega) (by decide) (hI 36 (by decide)) (ac_36 _ _) dX8_saidOf_111 ?_
              refine jr_top (Rw _ (by omega)) ?_
              refine jr_icmp_geN (tgt := 119) hg dX8_saidOf_112 (by decide) (by omega) (by omega) (fun h112 => ?_) (fun h112 => ?_)
              · refine jr_iconst hg (nI 2) dX8_saidOf_119 (by decide) ?_
                refine jr_istore hg dX8_saidOf_120 (by decide) rfl ?_
                refine jr_iload hg 0 rfl dX8_saidOf_122 ?_
                exact jr_iret hg rfl dX8_saidOf_124 (by rw [z_said, if_neg (by omega), if_neg h30, if_pos ⟨h93, by rw [hseen]; exact h99⟩, hseen, if_neg (Nat.not_lt.mpr h112)]; exact ⟨rfl, (by rw [zseedR_2, zseedR_2])⟩)
              · refine jr_iconst hg (nI 1) dX8_saidOf_115 (by decide) ?_
                refine jr_goto (tgt := 120) hg dX8_saidOf_116 (by decide) ?_
                refine jr_istore hg dX8_saidOf_120 (by decide) rfl ?_
                refine jr_iload hg 0 rfl dX8_saidOf_122 ?_
                exact jr_iret hg rfl dX8_saidOf_124 (by rw [z_said, if_neg (by omega), if_neg h30, if_pos ⟨h93, by rw [hseen]; exact h99⟩, hseen, if_pos h112]; exact ⟨rfl, (by rw [zseedR_2, zseedR_2])⟩)
        · refine jr_iconst hg (nI 0) dX8_saidOf_74 (by decide) ?_
          refine jr_goto (tgt := 84) hg dX8_saidOf_75 (by decide) ?_
          have hseen : z_seen s p (z_eye s l p) (s 0 3) = (0, (z_sd (s 0 3))) := by rw [z_seen, if_neg (by omega), if_pos h71]
          refine jr_istore hg dX8_saidOf_84 (by decide) rfl ?_
          refine jr_aload_n hg 2 rfl rfl dX8_saidOf_86 ?_
          refine gf_X8_39 hg (hI 35 (by decide)) dX8_saidOf_87 ?_
          refine jr_iload_n hg 3 rfl rfl dX8_saidOf_90 ?_
          refine jr_ialdN hg (n := 8) (by omega) (by decide) (hI 44 (by decide)) (ac_44 _ _) dX8_saidOf_91 ?_
          refine jr_top (Rl.2 _ (by omega)) ?_
          refine jr_iconst hg (nI 1) dX8_saidOf_92 (by decide) ?_
          refine jr_icmp_neN (tgt := 122) hg dX8_saidOf_93 (by decide) (by omega) (by omega) (fun h93 => ?_) (fun h93 => ?_)
          · refine jr_iload hg 0 rfl dX8_saidOf_122 ?_
            exact jr_iret hg rfl dX8_saidOf_124 (by rw [z_said, if_neg (by omega), if_neg h30, if_neg (fun q => h93 q.1), hseen]; exact ⟨rfl, rfl⟩)
          · refine jr_iload hg 0 rfl dX8_saidOf_96 ?_
            refine jr_iconst hg (nI 2) dX8_saidOf_98 (by decide) ?_
            refine jr_icmp_neN (tgt := 122) hg dX8_saidOf_99 (by decide) (by omega) (by omega) (fun h99 => ?_) (fun h99 => ?_)
            · refine jr_iload hg 0 rfl dX8_saidOf_122 ?_
              exact jr_iret hg rfl dX8_saidOf_124 (by rw [z_said, if_neg (by omega), if_neg h30, if_neg (fun q => h99 (by rw [hseen] at q; exact q.2)), hseen]; exact ⟨rfl, rfl⟩)
            · refine jr_aload_n hg 2 rfl rfl dX8_saidOf_102 ?_
              refine jr_cV0v hg lk_X8_232 (hI 35 (by decide)) rfl rfl (by decide) (by decide) (Nat.le_of_ble_eq_true rfl) dX8_saidOf_103 (c_X8_draw (d := (z_sd (s 0 3))) hI rfl hs1) ?_
              have Rp := zR_p_s (d := (z_sd (z_sd (s 0 3)))) Rp
              have Rl := zR_l_s (d := (z_sd (z_sd (s 0 3)))) Rl
              have Rw := zR_w_s (d := (z_sd (z_sd (s 0 3)))) Rw
              refine jr_aload_n hg 2 rfl rfl dX8_saidOf_106 ?_
              refine gf_X8_7 hg (hI 35 (by decide)) dX8_saidOf_107 ?_
              refine jr_iconst hg (nI 2) dX8_saidOf_110 (by decide) ?_
              refine jr_ialdN hg (n := 8) (by omega) (by decide) (hI 36 (by decide)) (ac_36 _ _) dX8_saidOf_111 ?_
              refine jr_top (Rw _ (by omega)) ?_
              refine jr_icmp_geN (tgt := 119) hg dX8_saidOf_112 (by decide) (by omega) (by omega) (fun h112 => ?_) (fun h112 => ?_)
              · refine jr_iconst hg (nI 2) dX8_saidOf_119 (by decide) ?_
                refine jr_istore hg dX8_saidOf_120 (by decide) rfl ?_
                refine jr_iload hg 0 rfl dX8_saidOf_122 ?_
                exact jr_iret hg rfl dX8_saidOf_124 (by rw [z_said, if_neg (by omega), if_neg h30, if_pos ⟨h93, by rw [hseen]; exact h99⟩, hseen, if_neg (Nat.not_lt.mpr h112)]; exact ⟨rfl, zseedR_2 _ _ _⟩)
              · refine jr_iconst hg (nI 1) dX8_saidOf_115 (by decide) ?_
                refine jr_goto (tgt := 120) hg dX8_saidOf_116 (by decide) ?_
                refine jr_istore hg dX8_saidOf_120 (by decide) rfl ?_
                refine jr_iload hg 0 rfl dX8_saidOf_122 ?_
                exact jr_iret hg rfl dX8_saidOf_124 (by rw [z_said, if_neg (by omega), if_neg h30, if_pos ⟨h93, by rw [hseen]; exact h99⟩, hseen, if_pos h112]; exact ⟨rfl, zseedR_2 _ _ _⟩)
      · refine jr_aload_n hg 1 rfl rfl dX8_saidOf_55 ?_
        refine gf_X8_23 hg (hI 35 (by decide)) dX8_saidOf_56 ?_
        refine jr_iload_n hg 3 rfl rfl dX8_saidOf_59 ?_
        refine jr_ialdN hg (n := 24) (by omega) (by decide) (hI 39 (by decide)) (ac_39 _ _) dX8_saidOf_60 ?_
        refine jr_top ((Rp.2 _ (by omega)).1) ?_
        refine jr_goto (tgt := 84) hg dX8_saidOf_61 (by decide) ?_
        have hseen : z_seen s p (z_eye s l p) (s 0 3) = (s 1 p, (z_sd (s 0 3))) := by rw [z_seen, if_pos h52]
        refine jr_istore hg dX8_saidOf_84 (by decide) rfl ?_
        refine jr_aload_n hg 2 rfl rfl dX8_saidOf_86 ?_
        refine gf_X8_39 hg (hI 35 (by decide)) dX8_saidOf_87 ?_
        refine jr_iload_n hg 3 rfl rfl dX8_saidOf_90 ?_
        refine jr_ialdN hg (n := 8) (by omega) (by decide) (hI 44 (by decide)) (ac_44 _ _) dX8_saidOf_91 ?_
        refine jr_top (Rl.2 _ (by omega)) ?_
        refine jr_iconst hg (nI 1) dX8_saidOf_92 (by decide) ?_
        refine jr_icmp_neN (tgt := 122) hg dX8_saidOf_93 (by decide) (by omega) (by omega) (fun h93 => ?_) (fun h93 => ?_)
        · refine jr_iload hg 0 rfl dX8_saidOf_122 ?_
          exact jr_iret hg rfl dX8_saidOf_124 (by rw [z_said, if_neg (by omega), if_neg h30, if_neg (fun q => h93 q.1), hseen]; exact ⟨rfl, rfl⟩)
        · refine jr_iload hg 0 rfl dX8_saidOf_96 ?_
          refine jr_iconst hg (nI 2) dX8_saidOf_98 (by decide) ?_
          refine jr_icmp_neN (tgt := 122) hg dX8_saidOf_99 (by decide) (by omega) (by omega) (fun h99 => ?_) (fun h99 => ?_)
          · refine jr_iload hg 0 rfl dX8_saidOf_122 ?_
            exact jr_iret hg rfl dX8_saidOf_124 (by rw [z_said, if_neg (by omega), if_neg h30, if_neg (fun q => h99 (by rw [hseen] at q; exact q.2)), hseen]; exact ⟨rfl, rfl⟩)
          · refine jr_aload_n hg 2 rfl rfl dX8_saidOf_102 ?_
            refine jr_cV0v hg lk_X8_232 (hI 35 (by decide)) rfl rfl (by decide) (by decide) (Nat.le_of_ble_eq_true rfl) dX8_saidOf_103 (c_X8_draw (d := (z_sd (s 0 3))) hI rfl hs1) ?_
            have Rp := zR_p_s (d := (z_sd (z_sd (s 0 3)))) Rp
            have Rl := zR_l_s (d := (z_sd (z_sd (s 0 3)))) Rl
            have Rw := zR_w_s (d := (z_sd (z_sd (s 0 3)))) Rw
            refine jr_aload_n hg 2 rfl rfl dX8_saidOf_106 ?_
            refine gf_X8_7 hg (hI 35 (by decide)) dX8_saidOf_107 ?_
            refine jr_iconst hg (nI 2) dX8_saidOf_110 (by decide) ?_
            refine jr_ialdN hg (n := 8) (by omega) (by decide) (hI 36 (by decide)) (ac_36 _ _) dX8_saidOf_111 ?_
            refine jr_top (Rw _ (by omega)) ?_
            refine jr_icmp_geN (tgt := 119) hg dX8_saidOf_112 (by decide) (by omega) (by omega) (fun h112 => ?_) (fun h112 => ?_)
            · refine jr_iconst hg (nI 2) dX8_saidOf_119 (by decide) ?_
              refine jr_istore hg dX8_saidOf_120 (by decide) rfl ?_
              refine jr_iload hg 0 rfl dX8_saidOf_122 ?_
              exact jr_iret hg rfl dX8_saidOf_124 (by rw [z_said, if_neg (by omega), if_neg h30, if_pos ⟨h93, by rw [hseen]; exact h99⟩, hseen, if_neg (Nat.not_lt.mpr h112)]; exact ⟨rfl, zseedR_2 _ _ _⟩)
            · refine jr_iconst hg (nI 1) dX8_saidOf_115 (by decide) ?_
              refine jr_goto (tgt := 120) hg dX8_saidOf_116 (by decide) ?_
              refine jr_istore hg dX8_saidOf_120 (by decide) rfl ?_
              refine jr_iload hg 0 rfl dX8_saidOf_122 ?_
              exact jr_iret hg rfl dX8_saidOf_124 (by rw [z_said, if_neg (by omega), if_neg h30, if_pos ⟨h93, by rw [hseen]; exact h99⟩, hseen, if_pos h112]; exact ⟨rfl, zseedR_2 _ _ _⟩)
    · refine jr_aload_n hg 0 rfl rfl dX8_saidOf_33 ?_
      refine jr_cV0v hg lk_X8_232 (hI 35 (by decide)) rfl rfl (by decide) (by decide) (Nat.le_of_ble_eq_true rfl) dX8_saidOf_34 (c_X8_draw hI Rd Wd) ?_
      refine jr_iconst hg (nI 3) dX8_saidOf_37 (by decide) ?_
      refine jr_iremN hg dX8_saidOf_38 (by omega) (by omega) (by omega) ?_
      exact jr_iret hg rfl dX8_saidOf_39 (by rw [z_said, if_neg (by omega), if_pos h30]; exact ⟨rfl, rfl⟩)
  · refine jr_aload_n hg 0 rfl rfl dX8_saidOf_10 ?_
    refine gf_X8_29 hg (hI 35 (by decide)) dX8_saidOf_11 ?_
    refine jr_iload_n hg 2 rfl rfl dX8_saidOf_14 ?_
    refine jr_ialdN hg (n := 24) (by omega) (by decide) (hI 41 (by decide)) (ac_41 _ _) dX8_saidOf_15 ?_
    refine jr_top ((Rp.2 _ (by omega)).2.2.1) ?_
    refine jr_bipush hg (nI 8) dX8_saidOf_16 (by decide) ?_
    refine jr_icmp_ltN (tgt := 23) hg dX8_saidOf_18 (by decide) (by omega) (by omega) (fun h18 => ?_) (fun h18 => ?_)
    · refine jr_aload_n hg 0 rfl rfl dX8_saidOf_23 ?_
      refine gf_X8_39 hg (hI 35 (by decide)) dX8_saidOf_24 ?_
      refine jr_iload_n hg 1 rfl rfl dX8_saidOf_27 ?_
      refine jr_ialdN hg (n := 8) (by omega) (by decide) (hI 44 (by decide)) (ac_44 _ _) dX8_saidOf_28 ?_
      refine jr_top (Rl.2 _ (by omega)) ?_
      refine jr_iconst hg (nI 3) dX8_saidOf_29 (by decide) ?_
      refine jr_icmp_neN (tgt := 40) hg dX8_saidOf_30 (by decide) (by omega) (by omega) (fun h30 => ?_) (fun h30 => ?_)
      · refine jr_aload_n hg 0 rfl rfl dX8_saidOf_40 ?_
        refine jr_iload_n hg 1 rfl rfl dX8_saidOf_41 ?_
        refine jr_iload_n hg 2 rfl rfl dX8_saidOf_42 ?_
        refine jr_cV2v hg lk_X8_235 (hI 35 (by decide)) rfl rfl (by decide) (by decide) (Nat.le_of_ble_eq_true rfl) dX8_saidOf_43 (c_X8_eyeOf hI rall wall hl hp) ?_
        refine jr_istore_n hg dX8_saidOf_46 rfl (by decide) rfl ?_
        refine jr_aload_n hg 1 rfl rfl dX8_saidOf_47 ?_
        refine jr_cV0v hg lk_X8_232 (hI 35 (by decide)) rfl rfl (by decide) (by decide) (Nat.le_of_ble_eq_true rfl) dX8_saidOf_48 (c_X8_draw hI Rd Wd) ?_
        have Rp := zR_p_s (d := (z_sd (s 0 3))) Rp
        have Rl := zR_l_s (d := (z_sd (s 0 3))) Rl
        have Rw := zR_w_s (d := (z_sd (s 0 3))) Rw
        refine jr_iload_n hg 0 rfl rfl dX8_saidOf_51 ?_
        refine jr_icmp_geN (tgt := 64) hg dX8_saidOf_52 (by decide) (by omega) (by omega) (fun h52 => ?_) (fun h52 => ?_)
        · refine jr_aload_n hg 1 rfl rfl dX8_saidOf_64 ?_
          refine gf_X8_26 hg (hI 35 (by decide)) dX8_saidOf_65 ?_
          refine jr_iload_n hg 3 rfl rfl dX8_saidOf_68 ?_
          refine jr_ialdN hg (n := 24) (by omega) (by decide) (hI 40 (by decide)) (ac_40 _ _) dX8_saidOf_69 ?_
          refine jr_top ((Rp.2 _ (by omega)).2.1) ?_
          refine jr_iconst hg (nI 1) dX8_saidOf_70 (by decide) ?_
          refine jr_icmp_neN (tgt := 78) hg dX8_saidOf_71 (by decide) (by omega) (by omega) (fun h71 => ?_) (fun h71 => ?_)
          · refine jr_aload_n hg 1 rfl rfl dX8_saidOf_78 ?_
            refine jr_cV0v hg lk_X8_232 (hI 35 (by decide)) rfl rfl (by decide) (by decide) (Nat.le_of_ble_eq_true rfl) dX8_saidOf_79 (c_X8_draw (d := (z_sd (s 0 3))) hI rfl hs1) ?_
            have Rp := zR_p_s (d := (z_sd (z_sd (s 0 3)))) Rp
            have Rl := zR_l_s (d := (z_sd (z_sd (s 0 3)))) Rl
            have Rw := zR_w_s (d := (z_sd (z_sd (s 0 3)))) Rw
            refine jr_iconst hg (nI 3) dX8_saidOf_82 (by decide) ?_
            refine jr_iremN hg dX8_saidOf_83 (by omega) (by omega) (by omega) ?_
            have hseen : z_seen s p (z_eye s l p) (s 0 3) = (z_dv (z_sd (z_sd (s 0 3))) % 3, (z_sd (z_sd (s 0 3)))) := by rw [z_seen, if_neg (by omega), if_neg h71]
            refine jr_istore hg dX8_saidOf_84 (by decide) rfl ?_
            refine jr_aload_n hg 2 rfl rfl dX8_saidOf_86 ?_
            refine gf_X8_39 hg (hI 35 (by decide)) dX8_saidOf_87 ?_
            refine jr_iload_n hg 3 rfl rfl dX8_saidOf_90 ?_
            refine jr_ialdN hg (n := 8) (by omega) (by decide) (hI 44 (by decide)) (ac_44 _ _) dX8_saidOf_91 ?_
            refine jr_top (Rl.2 _ (by omega)) ?_
            refine jr_iconst hg (nI 1) dX8_saidOf_92 (by decide) ?_
            refine jr_icmp_neN (tgt := 122) hg dX8_saidOf_93 (by decide) (by omega) (by omega) (fun h93 => ?_) (fun h93 => ?_)
            · refine jr_iload hg 0 rfl dX8_saidOf_122 ?_
              exact jr_iret hg rfl dX8_saidOf_124 (by rw [z_said, if_neg (by omega), if_neg h30, if_neg (fun q => h93 q.1), hseen]; exact ⟨rfl, zseedR_2 _ _ _⟩)
            · refine jr_iload hg 0 rfl dX8_saidOf_96 ?_
              refine jr_iconst hg (nI 2) dX8_saidOf_98 (by decide) ?_
              refine jr_icmp_neN (tgt := 122) hg dX8_saidOf_99 (by decide) (by omega) (by omega) (fun h99 => ?_) (fun h99 => ?_)
              · refine jr_iload hg 0 rfl dX8_saidOf_122 ?_
                exact jr_iret hg rfl dX8_saidOf_124 (by rw [z_said, if_neg (by omega), if_neg h30, if_neg (fun q => h99 (by rw [hseen] at q; exact q.2)), hseen]; exact ⟨rfl, zseedR_2 _ _ _⟩)
              · refine jr_aload_n hg 2 rfl rfl dX8_saidOf_102 ?_
                refine jr_cV0v hg lk_X8_232 (hI 35 (by decide)) rfl rfl (by decide) (by decide) (Nat.le_of_ble_eq_true rfl) dX8_saidOf_103 (c_X8_draw (d := (z_sd (z_sd (s 0 3)))) hI rfl hs2) ?_
                have Rp := zR_p_s (d := (z_sd (z_sd (z_sd (s 0 3))))) Rp
                have Rl := zR_l_s (d := (z_sd (z_sd (z_sd (s 0 3))))) Rl
                have Rw := zR_w_s (d := (z_sd (z_sd (z_sd (s 0 3))))) Rw
                refine jr_aload_n hg 2 rfl rfl dX8_saidOf_106 ?_
                refine gf_X8_7 hg (hI 35 (by decide)) dX8_saidOf_107 ?_
                refine jr_iconst hg (nI 2) dX8_saidOf_110 (by decide) ?_
                refine jr_ialdN hg (n := 8) (by omega) (by decide) (hI 36 (by decide)) (ac_36 _ _) dX8_saidOf_111 ?_
                refine jr_top (Rw _ (by omega)) ?_
                refine jr_icmp_geN (tgt := 119) hg dX8_saidOf_112 (by decide) (by omega) (by omega) (fun h112 => ?_) (fun h112 => ?_)
                · refine jr_iconst hg (nI 2) dX8_saidOf_119 (by decide) ?_
                  refine jr_istore hg dX8_saidOf_120 (by decide) rfl ?_
                  refine jr_iload hg 0 rfl dX8_saidOf_122 ?_
                  exact jr_iret hg rfl dX8_saidOf_124 (by rw [z_said, if_neg (by omega), if_neg h30, if_pos ⟨h93, by rw [hseen]; exact h99⟩, hseen, if_neg (Nat.not_lt.mpr h112)]; exact ⟨rfl, (by rw [zseedR_2, zseedR_2])⟩)
                · refine jr_iconst hg (nI 1) dX8_saidOf_115 (by decide) ?_
                  refine jr_goto (tgt := 120) hg dX8_saidOf_116 (by decide) ?_
                  refine jr_istore hg dX8_saidOf_120 (by decide) rfl ?_
                  refine jr_iload hg 0 rfl dX8_saidOf_122 ?_
                  exact jr_iret hg rfl dX8_saidOf_124 (by rw [z_said, if_neg (by omega), if_neg h30, if_pos ⟨h93, by rw [hseen]; exact h99⟩, hseen, if_pos h112]; exact ⟨rfl, (by rw [zseedR_2, zseedR_2])⟩)
          · refine jr_iconst hg (nI 0) dX8_saidOf_74 (by decide) ?_
            refine jr_goto (tgt := 84) hg dX8_saidOf_75 (by decide) ?_
            have hseen : z_seen s p (z_eye s l p) (s 0 3) = (0, (z_sd (s 0 3))) := by rw [z_seen, if_neg (by omega), if_pos h71]
            refine jr_istore hg dX8_saidOf_84 (by decide) rfl ?_
            refine jr_aload_n hg 2 rfl rfl dX8_saidOf_86 ?_
            refine gf_X8_39 hg (hI 35 (by decide)) dX8_saidOf_87 ?_
            refine jr_iload_n hg 3 rfl rfl dX8_saidOf_90 ?_
            refine jr_ialdN hg (n := 8) (by omega) (by decide) (hI 44 (by decide)) (ac_44 _ _) dX8_saidOf_91 ?_
            refine jr_top (Rl.2 _ (by omega)) ?_
            refine jr_iconst hg (nI 1) dX8_saidOf_92 (by decide) ?_
            refine jr_icmp_neN (tgt := 122) hg dX8_saidOf_93 (by decide) (by omega) (by omega) (fun h93 => ?_) (fun h93 => ?_)
            · refine jr_iload hg 0 rfl dX8_saidOf_122 ?_
              exact jr_iret hg rfl dX8_saidOf_124 (by rw [z_said, if_neg (by omega), if_neg h30, if_neg (fun q => h93 q.1), hseen]; exact ⟨rfl, rfl⟩)
            · refine jr_iload hg 0 rfl dX8_saidOf_96 ?_
              refine jr_iconst hg (nI 2) dX8_saidOf_98 (by decide) ?_
              refine jr_icmp_neN (tgt := 122) hg dX8_saidOf_99 (by decide) (by omega) (by omega) (fun h99 => ?_) (fun h99 => ?_)
              · refine jr_iload hg 0 rfl dX8_saidOf_122 ?_
                exact jr_iret hg rfl dX8_saidOf_124 (by rw [z_said, if_neg (by omega), if_neg h30, if_neg (fun q => h99 (by rw [hseen] at q; exact q.2)), hseen]; exact ⟨rfl, rfl⟩)
              · refine jr_aload_n hg 2 rfl rfl dX8_saidOf_102 ?_
                refine jr_cV0v hg lk_X8_232 (hI 35 (by decide)) rfl rfl (by decide) (by decide) (Nat.le_of_ble_eq_true rfl) dX8_saidOf_103 (c_X8_draw (d := (z_sd (s 0 3))) hI rfl hs1) ?_
                have Rp := zR_p_s (d := (z_sd (z_sd (s 0 3)))) Rp
                have Rl := zR_l_s (d := (z_sd (z_sd (s 0 3)))) Rl
                have Rw := zR_w_s (d := (z_sd (z_sd (s 0 3)))) Rw
                refine jr_aload_n hg 2 rfl rfl dX8_saidOf_106 ?_
                refine gf_X8_7 hg (hI 35 (by decide)) dX8_saidOf_107 ?_
                refine jr_iconst hg (nI 2) dX8_saidOf_110 (by decide) ?_
                refine jr_ialdN hg (n := 8) (by omega) (by decide) (hI 36 (by decide)) (ac_36 _ _) dX8_saidOf_111 ?_
                refine jr_top (Rw _ (by omega)) ?_
                refine jr_icmp_geN (tgt := 119) hg dX8_saidOf_112 (by decide) (by omega) (by omega) (fun h112 => ?_) (fun h112 => ?_)
                · refine jr_iconst hg (nI 2) dX8_saidOf_119 (by decide) ?_
                  refine jr_istore hg dX8_saidOf_120 (by decide) rfl ?_
                  refine jr_iload hg 0 rfl dX8_saidOf_122 ?_
                  exact jr_iret hg rfl dX8_saidOf_124 (by rw [z_said, if_neg (by omega), if_neg h30, if_pos ⟨h93, by rw [hseen]; exact h99⟩, hseen, if_neg (Nat.not_lt.mpr h112)]; exact ⟨rfl, zseedR_2 _ _ _⟩)
                · refine jr_iconst hg (nI 1) dX8_saidOf_115 (by decide) ?_
                  refine jr_goto (tgt := 120) hg dX8_saidOf_116 (by decide) ?_
                  refine jr_istore hg dX8_saidOf_120 (by decide) rfl ?_
                  refine jr_iload hg 0 rfl dX8_saidOf_122 ?_
                  exact jr_iret hg rfl dX8_saidOf_124 (by rw [z_said, if_neg (by omega), if_neg h30, if_pos ⟨h93, by rw [hseen]; exact h99⟩, hseen, if_pos h112]; exact ⟨rfl, zseedR_2 _ _ _⟩)
        · refine jr_aload_n hg 1 rfl rfl dX8_saidOf_55 ?_
          refine gf_X8_23 hg (hI 35 (by decide)) dX8_saidOf_56 ?_
          refine jr_iload_n hg 3 rfl rfl dX8_saidOf_59 ?_
          refine jr_ialdN hg (n := 24) (by omega) (by decide) (hI 39 (by decide)) (ac_39 _ _) dX8_saidOf_60 ?_
          refine jr_top ((Rp.2 _ (by omega)).1) ?_
          refine jr_goto (tgt := 84) hg dX8_saidOf_61 (by decide) ?_
          have hseen : z_seen s p (z_eye s l p) (s 0 3) = (s 1 p, (z_sd (s 0 3))) := by rw [z_seen, if_pos h52]
          refine jr_istore hg dX8_saidOf_84 (by decide) rfl ?_
          refine jr_aload_n hg 2 rfl rfl dX8_saidOf_86 ?_
          refine gf_X8_39 hg (hI 35 (by decide)) dX8_saidOf_87 ?_
          refine jr_iload_n hg 3 rfl rfl dX8_saidOf_90 ?_
          refine jr_ialdN hg (n := 8) (by omega) (by decide) (hI 44 (by decide)) (ac_44 _ _) dX8_saidOf_91 ?_
          refine jr_top (Rl.2 _ (by omega)) ?_
          refine jr_iconst hg (nI 1) dX8_saidOf_92 (by decide) ?_
          refine jr_icmp_neN (tgt := 122) hg dX8_saidOf_93 (by decide) (by omega) (by omega) (fun h93 => ?_) (fun h93 => ?_)
          · refine jr_iload hg 0 rfl dX8_saidOf_122 ?_
            exact jr_iret hg rfl dX8_saidOf_124 (by rw [z_said, if_neg (by omega), if_neg h30, if_neg (fun q => h93 q.1), hseen]; exact ⟨rfl, rfl⟩)
          · refine jr_iload hg 0 rfl dX8_saidOf_96 ?_
            refine jr_iconst hg (nI 2) dX8_saidOf_98 (by decide) ?_
            refine jr_icmp_neN (tgt := 122) hg dX8_saidOf_99 (by decide) (by omega) (by omega) (fun h99 => ?_) (fun h99 => ?_)
            · refine jr_iload hg 0 rfl dX8_saidOf_122 ?_
              exact jr_iret hg rfl dX8_saidOf_124 (by rw [z_said, if_neg (by omega), if_neg h30, if_neg (fun q => h99 (by rw [hseen] at q; exact q.2)), hseen]; exact ⟨rfl, rfl⟩)
            · refine jr_aload_n hg 2 rfl rfl dX8_saidOf_102 ?_
              refine jr_cV0v hg lk_X8_232 (hI 35 (by decide)) rfl rfl (by decide) (by decide) (Nat.le_of_ble_eq_true rfl) dX8_saidOf_103 (c_X8_draw (d := (z_sd (s 0 3))) hI rfl hs1) ?_
              have Rp := zR_p_s (d := (z_sd (z_sd (s 0 3)))) Rp
              have Rl := zR_l_s (d := (z_sd (z_sd (s 0 3)))) Rl
              have Rw := zR_w_s (d := (z_sd (z_sd (s 0 3)))) Rw
              refine jr_aload_n hg 2 rfl rfl dX8_saidOf_106 ?_
              refine gf_X8_7 hg (hI 35 (by decide)) dX8_saidOf_107 ?_
              refine jr_iconst hg (nI 2) dX8_saidOf_110 (by decide) ?_
              refine jr_ialdN hg (n := 8) (by omega) (by decide) (hI 36 (by decide)) (ac_36 _ _) dX8_saidOf_111 ?_
              refine jr_top (Rw _ (by omega)) ?_
              refine jr_icmp_geN (tgt := 119) hg dX8_saidOf_112 (by decide) (by omega) (by omega) (fun h112 => ?_) (fun h112 => ?_)
              · refine jr_iconst hg (nI 2) dX8_saidOf_119 (by decide) ?_
                refine jr_istore hg dX8_saidOf_120 (by decide) rfl ?_
                refine jr_iload hg 0 rfl dX8_saidOf_122 ?_
                exact jr_iret hg rfl dX8_saidOf_124 (by rw [z_said, if_neg (by omega), if_neg h30, if_pos ⟨h93, by rw [hseen]; exact h99⟩, hseen, if_neg (Nat.not_lt.mpr h112)]; exact ⟨rfl, zseedR_2 _ _ _⟩)
              · refine jr_iconst hg (nI 1) dX8_saidOf_115 (by decide) ?_
                refine jr_goto (tgt := 120) hg dX8_saidOf_116 (by decide) ?_
                refine jr_istore hg dX8_saidOf_120 (by decide) rfl ?_
                refine jr_iload hg 0 rfl dX8_saidOf_122 ?_
                exact jr_iret hg rfl dX8_saidOf_124 (by rw [z_said, if_neg (by omega), if_neg h30, if_pos ⟨h93, by rw [hseen]; exact h99⟩, hseen, if_pos h112]; exact ⟨rfl, zseedR_2 _ _ _⟩)
      · refine jr_aload_n hg 0 rfl rfl dX8_saidOf_33 ?_
        refine jr_cV0v hg lk_X8_232 (hI 35 (by decide)) rfl rfl (by decide) (by decide) (Nat.le_of_ble_eq_true rfl) dX8_saidOf_34 (c_X8_draw hI Rd Wd) ?_
        refine jr_iconst hg (nI 3) dX8_saidOf_37 (by decide) ?_
        refine jr_iremN hg dX8_saidOf_38 (by omega) (by omega) (by omega) ?_
        exact jr_iret hg rfl dX8_saidOf_39 (by rw [z_said, if_neg (by omega), if_pos h30]; exact ⟨rfl, rfl⟩)
    · refine jr_iconst hg (nI 3) dX8_saidOf_21 (by decide) ?_
      exact jr_iret hg rfl dX8_saidOf_22 (by rw [z_said, if_pos ⟨h7, h18⟩]; exact ⟨rfl, (zseedR_self Rd).symm⟩)

set_option maxRecDepth 100000 in
theorem c_X8_isStaying {E : mm_E} (hI : mm_FR E) {M : mm_M} {s : zS} (hR : zR s M) (hW : zW s) {l : Nat} (hl : l < s 0 1) : mm_Cal E mX8_isStaying [.ref (E.1 35), .int (nI l)] M (ret1 (.int (nI (z_st s l).toNat)) M) := by
  obtain ⟨Rp, Rl, Rk, Rw, Rt, Rd, Ro, Rq⟩ := hR
  obtain ⟨Wp, Wl, Wk, Ww, Wt, Wd, Wo, Wq⟩ := hW
  have hnp := Wp.1
  have hnl := Wl.1
  have hnk := Wk.1
  have rall : zR s M := ⟨Rp, Rl, Rk, Rw, Rt, Rd, Ro, Rq⟩
  have wall : zW s := ⟨Wp, Wl, Wk, Ww, Wt, Wd, Wo, Wq⟩
  have g6 := zW_w100 Ww 6 (by decide)
  refine jr_entry RX8 (by decide +kernel) (Nat.le_of_ble_eq_true rfl) (fun g hg => ?_)
  refine jr_lv (lv' := [(0, .ref (E.1 35)), (1, .int (nI l))]) [0, 1] rfl ?_
  refine jr_iconst hg (nI 0) dX8_isStaying_0 (by decide) ?_
  refine jr_istore_n hg dX8_isStaying_1 rfl (by decide) rfl ?_
  refine jr_iconst hg (nI 0) dX8_isStaying_2 (by decide) ?_
  refine jr_istore_n hg dX8_isStaying_3 rfl (by decide) rfl ?_
  refine jr_aload_n hg 2 rfl rfl dX8_isStaying_4 ?_
  refine gf_X8_174 hg (hI 35 (by decide)) dX8_isStaying_5 ?_
  refine jr_top (Rk.1) ?_
  refine jr_iconst hg (nI 1) dX8_isStaying_8 (by decide) ?_
  refine jr_isub hg dX8_isStaying_9 ?_
  refine jr_top (zmv_sub1 _) ?_
  refine jr_istore hg dX8_isStaying_10 (by decide) rfl ?_
  have lp12 : ∀ k : Nat, ∀ (n : Nat) (nr : Bool), n ≤ 100 → k ≤ s 0 2 → (nr || z_sg s l (s 10 6) k n) = z_st s l → mm_J g E mX8_isStaying (ret1 (.int (nI (z_st s l).toNat)) M) 12 [(0, .ref (E.1 35)), (1, .int (nI l)), (2, .int (nI n)), (3, .int (nI (nr.toNat))), (4, .int (zmv k))] [] (M) := by
    refine jr_dn (S := fun k => ∀ (n : Nat) (nr : Bool), n ≤ 100 → k ≤ s 0 2 → (nr || z_sg s l (s 10 6) k n) = z_st s l → mm_J g E mX8_isStaying (ret1 (.int (nI (z_st s l).toNat)) M) 12 [(0, .ref (E.1 35)), (1, .int (nI l)), (2, .int (nI n)), (3, .int (nI (nr.toNat))), (4, .int (zmv k))] [] (M)) ?_ ?_
    · intro n nr hn hk hz
      show mm_J g E mX8_isStaying (ret1 (.int (nI (z_st s l).toNat)) M) 12 [(0, .ref (E.1 35)), (1, .int (nI l)), (2, .int (nI n)), (3, .int (nI (nr.toNat))), (4, .int (zmv 0))] [] (M)
      refine jr_iload hg 4 rfl dX8_isStaying_12 ?_
      refine jr_if_lt (tgt := 73) hg dX8_isStaying_14 (by decide) (fun h14 => ?_) (fun h => absurd zm1 h)
      refine jr_iload_n hg 2 rfl rfl dX8_isStaying_73 ?_
      refine jr_aload_n hg 0 rfl rfl dX8_isStaying_74 ?_
      refine gf_X8_7 hg (hI 35 (by decide)) dX8_isStaying_75 ?_
      refine jr_bipush hg (nI 6) dX8_isStaying_78 (by decide) ?_
      refine jr_ialdN hg (n := 8) (by omega) (by decide) (hI 36 (by decide)) (ac_36 _ _) dX8_isStaying_80 ?_
      refine jr_top (Rw _ (by omega)) ?_
      refine jr_icmp_ltN (tgt := 88) hg dX8_isStaying_81 (by decide) (by omega) (by omega) (fun h81 => ?_) (fun h81 => ?_)
      · refine jr_iconst hg (nI 1) dX8_isStaying_88 (by decide) ?_
        refine jr_goto (tgt := 93) hg dX8_isStaying_89 (by decide) ?_
        exact jr_zret hg rfl (by first | exact Or.inl rfl | exact Or.inr rfl | exact z01 _) dX8_isStaying_93 (⟨by rw [← hz, z_sg, decide_eq_true h81]; cases nr <;> rfl, rfl⟩)
      · refine jr_iload_n hg 3 rfl rfl dX8_isStaying_84 ?_
        refine jr_if_eqZ (tgt := 92) hg dX8_isStaying_85 (by decide) (fun h85 => ?_) (fun h85 => ?_)
        · refine jr_iconst hg (nI 0) dX8_isStaying_92 (by decide) ?_
          exact jr_zret hg rfl (by first | exact Or.inl rfl | exact Or.inr rfl | exact z01 _) dX8_isStaying_93 (⟨by rw [← hz, z_sg, decide_eq_false (by omega), h85]; rfl, rfl⟩)
        · refine jr_iconst hg (nI 1) dX8_isStaying_88 (by decide) ?_
          refine jr_goto (tgt := 93) hg dX8_isStaying_89 (by decide) ?_
          exact jr_zret hg rfl (by first | exact Or.inl rfl | exact Or.inr rfl | exact z01 _) dX8_isStaying_93 (⟨by rw [← hz, z_sg, decide_eq_false (by omega), h85]; rfl, rfl⟩)
    · intro k ih n nr hn hk hz
      show mm_J g E mX8_isStaying (ret1 (.int (nI (z_st s l).toNat)) M) 12 [(0, .ref (E.1 35)), (1, .int (nI l)), (2, .int (nI n)), (3, .int (nI (nr.toNat))), (4, .int (nI k))] [] (M)
      have hlo := Wk.2.1 k (by omega)
      have hfr := (Wp.2 (s 8 k) hlo.2.1).2.1
      refine jr_iload hg 4 rfl dX8_isStaying_12 ?_
      refine jr_if_ltN hg dX8_isStaying_14 (tgt := 73) (by decide) (by omega) ?_
      refine jr_iload_n hg 2 rfl rfl dX8_isStaying_17 ?_
      refine jr_aload_n hg 0 rfl rfl dX8_isStaying_18 ?_
      refine gf_X8_7 hg (hI 35 (by decide)) dX8_isStaying_19 ?_
      refine jr_bipush hg (nI 6) dX8_isStaying_22 (by decide) ?_
      refine jr_ialdN hg (n := 8) (by omega) (by decide) (hI 36 (by decide)) (ac_36 _ _) dX8_isStaying_24 ?_
      refine jr_top (Rw _ (by omega)) ?_
      refine jr_icmp_geN (tgt := 73) hg dX8_isStaying_25 (by decide) (by omega) (by omega) (fun h25 => ?_) (fun h25 => ?_)
      · refine jr_iload_n hg 2 rfl rfl dX8_isStaying_73 ?_
        refine jr_aload_n hg 0 rfl rfl dX8_isStaying_74 ?_
        refine gf_X8_7 hg (hI 35 (by decide)) dX8_isStaying_75 ?_
        refine jr_bipush hg (nI 6) dX8_isStaying_78 (by decide) ?_
        refine jr_ialdN hg (n := 8) (by omega) (by decide) (hI 36 (by decide)) (ac_36 _ _) dX8_isStaying_80 ?_
        refine jr_top (Rw _ (by omega)) ?_
        refine jr_icmp_ltN (tgt := 88) hg dX8_isStaying_81 (by decide) (by omega) (by omega) (fun h => by omega) (fun h81 => ?_)
        refine jr_iload_n hg 3 rfl rfl dX8_isStaying_84 ?_
        refine jr_if_eqZ (tgt := 92) hg dX8_isStaying_85 (by decide) (fun h85 => ?_) (fun h85 => ?_)
        · refine jr_iconst hg (nI 0) dX8_isStaying_92 (by decide) ?_
          exact jr_zret hg rfl (by first | exact Or.inl rfl | exact Or.inr rfl | exact z01 _) dX8_isStaying_93 (⟨by rw [← hz, z_sg, if_neg (by omega), h85]; rfl, rfl⟩)
        · refine jr_iconst hg (nI 1) dX8_isStaying_88 (by decide) ?_
          refine jr_goto (tgt := 93) hg dX8_isStaying_89 (by decide) ?_
          exact jr_zret hg rfl (by first | exact Or.inl rfl | exact Or.inr rfl | exact z01 _) dX8_isStaying_93 (⟨by rw [← hz, z_sg, if_neg (by omega), h85]; rfl, rfl⟩)
      · refine jr_aload_n hg 0 rfl rfl dX8_isStaying_28 ?_
        refine gf_X8_42 hg (hI 35 (by decide)) dX8_isStaying_29 ?_
        refine jr_iload hg 4 rfl dX8_isStaying_32 ?_
        refine jr_ialdN hg (n := 200) (by omega) (by decide) (hI 45 (by decide)) (ac_45 _ _) dX8_isStaying_34 ?_
        refine jr_top ((Rk.2 _ (by omega)).1) ?_
        refine jr_iload_n hg 1 rfl rfl dX8_isStaying_35 ?_
        refine jr_icmp_neN (tgt := 67) hg dX8_isStaying_36 (by decide) (by omega) (by omega) (fun h36 => ?_) (fun h36 => ?_)
        · refine jr_iinc hg 4 rfl (zmv k) (zmv_dec k) dX8_isStaying_67 (by decide) rfl ?_
          refine jr_goto (tgt := 12) hg dX8_isStaying_70 (by decide) ?_
          exact jr_lv [1, 2, 3, 4, 0] rfl (ih n nr (by omega) (by omega) (by rw [← hz, z_sg, if_pos h25, if_neg h36]))
        · refine jr_iinc hg 2 rfl (nI (_ + 1)) (nI_1 _) dX8_isStaying_39 (by decide) rfl ?_
          refine jr_iload_n hg 3 rfl rfl dX8_isStaying_42 ?_
          refine jr_if_neZ (tgt := 61) hg dX8_isStaying_43 (by decide) (fun h43 => ?_) (fun h43 => ?_)
          · refine jr_iconst hg (nI 1) dX8_isStaying_61 (by decide) ?_
            refine jr_goto (tgt := 66) hg dX8_isStaying_62 (by decide) ?_
            refine jr_istore_n hg dX8_isStaying_66 rfl (by decide) rfl ?_
            refine jr_iinc hg 4 rfl (zmv k) (zmv_dec k) dX8_isStaying_67 (by decide) rfl ?_
            refine jr_goto (tgt := 12) hg dX8_isStaying_70 (by decide) ?_
            exact jr_lv [3, 4, 2, 1, 0] rfl (ih (n + 1) true (by omega) (by omega) (by rw [← hz, h43]; rfl))
          · refine jr_aload_n hg 1 rfl rfl dX8_isStaying_46 ?_
            refine gf_X8_26 hg (hI 35 (by decide)) dX8_isStaying_47 ?_
            refine jr_aload_n hg 1 rfl rfl dX8_isStaying_50 ?_
            refine gf_X8_45 hg (hI 35 (by decide)) dX8_isStaying_51 ?_
            refine jr_iload hg 4 rfl dX8_isStaying_54 ?_
            refine jr_ialdN hg (n := 200) (by omega) (by decide) (hI 46 (by decide)) (ac_46 _ _) dX8_isStaying_56 ?_
            refine jr_top ((Rk.2 _ (by omega)).2.1) ?_
            refine jr_ialdN hg (n := 24) (by omega) (by decide) (hI 40 (by decide)) (ac_40 _ _) dX8_isStaying_57 ?_
            refine jr_top ((Rp.2 _ (by omega)).2.1) ?_
            refine jr_if_neN (tgt := 65) hg dX8_isStaying_58 (by decide) (by omega) (fun h58 => ?_) (fun h58 => ?_)
            · refine jr_iconst hg (nI 0) dX8_isStaying_65 (by decide) ?_
              refine jr_istore_n hg dX8_isStaying_66 rfl (by decide) rfl ?_
              refine jr_iinc hg 4 rfl (zmv k) (zmv_dec k) dX8_isStaying_67 (by decide) rfl ?_
              refine jr_goto (tgt := 12) hg dX8_isStaying_70 (by decide) ?_
              exact jr_lv [3, 4, 2, 1, 0] rfl (ih (n + 1) false (by omega) (by omega) (by rw [← hz, h43, z_sg, if_pos h25, if_pos h36, if_pos (by omega)]))
            · refine jr_iconst hg (nI 1) dX8_isStaying_61 (by decide) ?_
              refine jr_goto (tgt := 66) hg dX8_isStaying_62 (by decide) ?_
              refine jr_istore_n hg dX8_isStaying_66 rfl (by decide) rfl ?_
              refine jr_iinc hg 4 rfl (zmv k) (zmv_dec k) dX8_isStaying_67 (by decide) rfl ?_
              refine jr_goto (tgt := 12) hg dX8_isStaying_70 (by decide) ?_
              exact jr_lv [3, 4, 2, 1, 0] rfl (ih (n + 1) true (by omega) (by omega) (by rw [← hz, h43, z_sg, if_pos h25, if_pos h36, if_neg (by omega)]; rfl))
  exact jr_lv [3, 4, 2, 1, 0] rfl (lp12 (s 0 2) 0 false (by omega) (by omega) rfl)

set_option maxRecDepth 100000 in
theorem c_X8_staying {E : mm_E} (hI : mm_FR E) {M : mm_M} {s : zS} (hR : zR s M) (hW : zW s) : mm_Cal E mX8_staying [.ref (E.1 35)] M (ret1 (.int (nI (zcnt (z_st s) (s 0 1)))) M) := by
  obtain ⟨Rp, Rl, Rk, Rw, Rt, Rd, Ro, Rq⟩ := hR
  obtain ⟨Wp, Wl, Wk, Ww, Wt, Wd, Wo, Wq⟩ := hW
  have hnp := Wp.1
  have hnl := Wl.1
  have hnk := Wk.1
  have rall : zR s M := ⟨Rp, Rl, Rk, Rw, Rt, Rd, Ro, Rq⟩
  have wall : zW s := ⟨Wp, Wl, Wk, Ww, Wt, Wd, Wo, Wq⟩
  refine jr_entry RX8 (by decide +kernel) (Nat.le_of_ble_eq_true rfl) (fun g hg => ?_)
  refine jr_lv (lv' := [(0, .ref (E.1 35))]) [0] rfl ?_
  refine jr_iconst hg (nI 0) dX8_staying_0 (by decide) ?_
  refine jr_istore_n hg dX8_staying_1 rfl (by decide) rfl ?_
  refine jr_iconst hg (nI 0) dX8_staying_2 (by decide) ?_
  refine jr_istore_n hg dX8_staying_3 rfl (by decide) rfl ?_
  have lp4 : ∀ p : Nat, p ≤ s 0 1 →  mm_J g E mX8_staying (ret1 (.int (nI (zcnt (z_st s) (s 0 1)))) M) 4 [(0, .ref (E.1 35)), (1, .int (nI ((zcnt (z_st s) p)))), (2, .int (nI p))] [] (M) := by
    refine jr_up (S := fun p =>  mm_J g E mX8_staying (ret1 (.int (nI (zcnt (z_st s) (s 0 1)))) M) 4 [(0, .ref (E.1 35)), (1, .int (nI ((zcnt (z_st s) p)))), (2, .int (nI p))] [] (M)) (n := s 0 1) ?_ ?_
    · show mm_J g E mX8_staying (ret1 (.int (nI (zcnt (z_st s) (s 0 1)))) M) 4 [(0, .ref (E.1 35)), (1, .int (nI ((zcnt (z_st s) (s 0 1))))), (2, .int (nI (s 0 1)))] [] (M)
      refine jr_iload_n hg 2 rfl rfl dX8_staying_4 ?_
      refine jr_aload_n hg 0 rfl rfl dX8_staying_5 ?_
      refine gf_X8_165 hg (hI 35 (by decide)) dX8_staying_6 ?_
      refine jr_top (Rl.1) ?_
      refine jr_icmp_geN (tgt := 29) hg dX8_staying_9 (by decide) (by omega) (by omega) (fun h9 => ?_) (fun h => by omega)
      refine jr_iload_n hg 1 rfl rfl dX8_staying_29 ?_
      exact jr_iret hg rfl dX8_staying_30 (⟨rfl, rfl⟩)
    · intro p hp ih 
      show mm_J g E mX8_staying (ret1 (.int (nI (zcnt (z_st s) (s 0 1)))) M) 4 [(0, .ref (E.1 35)), (1, .int (nI ((zcnt (z_st s) p)))), (2, .int (nI p))] [] (M)
      refine jr_iload_n hg 2 rfl rfl dX8_staying_4 ?_
      refine jr_aload_n hg 0 rfl rfl dX8_staying_5 ?_
      refine gf_X8_165 hg (hI 35 (by decide)) dX8_staying_6 ?_
      refine jr_top (Rl.1) ?_
      refine jr_icmp_geN (tgt := 29) hg dX8_staying_9 (by decide) (by omega) (by omega) (fun h => by omega) (fun h9 => ?_)
      refine jr_iload_n hg 1 rfl rfl dX8_staying_12 ?_
      refine jr_aload_n hg 0 rfl rfl dX8_staying_13 ?_
      refine jr_iload_n hg 2 rfl rfl dX8_staying_14 ?_
      refine jr_cV1v hg lk_X8_189 (hI 35 (by decide)) rfl rfl (by decide) (by decide) (Nat.le_of_ble_eq_true rfl) dX8_staying_15 (c_X8_isStaying hI rall wall hp) ?_
      refine jr_cS1v hg lk_X8_148 (by decide) (by decide) (Nat.le_of_ble_eq_true rfl) dX8_staying_18 (c_X8_one hI (Bool.toNat_le _)) ?_
      refine jr_iaddN hg dX8_staying_21 ?_
      refine jr_istore_n hg dX8_staying_22 rfl (by decide) rfl ?_
      refine jr_iinc hg 2 rfl (nI (_ + 1)) (nI_1 _) dX8_staying_23 (by decide) rfl ?_
      refine jr_goto (tgt := 4) hg dX8_staying_26 (by decide) ?_
      exact jr_lv [2, 1, 0] rfl ih
  exact jr_lv [2, 1, 0] rfl (lp4 0 (by omega))

set_option maxRecDepth 100000 in
theorem c_X8_nextOf {E : mm_E} (hI : mm_FR E) {M : mm_M} {s : zS} (hR : zR s M) (hW : zW s) {l : Nat} (hl : l < s 0 1) {r : Nat} (hr : r ≤ 2) : mm_Cal E mX8_nextOf [.ref (E.1 35), .int (nI l), .int (nI r)] M (ret1 (.int (zmv (z_nx s l r (s 0 0)))) M) := by
  obtain ⟨Rp, Rl, Rk, Rw, Rt, Rd, Ro, Rq⟩ := hR
  obtain ⟨Wp, Wl, Wk, Ww, Wt, Wd, Wo, Wq⟩ := hW
  have hnp := Wp.1
  have hnl := Wl.1
  have hnk := Wk.1
  have rall : zR s M := ⟨Rp, Rl, Rk, Rw, Rt, Rd, Ro, Rq⟩
  have wall : zW s := ⟨Wp, Wl, Wk, Ww, Wt, Wd, Wo, Wq⟩
  refine jr_entry RX8 (by decide +kernel) (Nat.le_of_ble_eq_true rfl) (fun g hg => ?_)
  refine jr_lv (lv' := [(0, .ref (E.1 35)), (1, .int (nI l)), (2, .int (nI r))]) [0, 1, 2] rfl ?_
  refine jr_iconst hg (-1) dX8_nextOf_0 (by decide) ?_
  refine jr_istore_n hg dX8_nextOf_1 rfl (by decide) rfl ?_
  refine jr_iconst hg (nI 0) dX8_nextOf_2 (by decide) ?_
  refine jr_istore hg dX8_nextOf_3 (by decide) rfl ?_
  have lp5 : ∀ p : Nat, p ≤ s 0 0 →  mm_J g E mX8_nextOf (ret1 (.int (zmv (z_nx s l r (s 0 0)))) M) 5 [(0, .ref (E.1 35)), (1, .int (nI l)), (2, .int (nI r)), (3, .int (zmv (z_nx s l r p))), (4, .int (nI p))] [] (M) := by
    refine jr_up (S := fun p =>  mm_J g E mX8_nextOf (ret1 (.int (zmv (z_nx s l r (s 0 0)))) M) 5 [(0, .ref (E.1 35)), (1, .int (nI l)), (2, .int (nI r)), (3, .int (zmv (z_nx s l r p))), (4, .int (nI p))] [] (M)) (n := s 0 0) ?_ ?_
    · show mm_J g E mX8_nextOf (ret1 (.int (zmv (z_nx s l r (s 0 0)))) M) 5 [(0, .ref (E.1 35)), (1, .int (nI l)), (2, .int (nI r)), (3, .int (zmv (z_nx s l r (s 0 0)))), (4, .int (nI (s 0 0)))] [] (M)
      refine jr_iload hg 4 rfl dX8_nextOf_5 ?_
      refine jr_aload_n hg 0 rfl rfl dX8_nextOf_7 ?_
      refine gf_X8_154 hg (hI 35 (by decide)) dX8_nextOf_8 ?_
      refine jr_top (Rp.1) ?_
      refine jr_icmp_geN (tgt := 123) hg dX8_nextOf_11 (by decide) (by omega) (by omega) (fun h11 => ?_) (fun h => by omega)
      refine jr_iload_n hg 3 rfl rfl dX8_nextOf_123 ?_
      exact jr_iret hg rfl dX8_nextOf_124 (⟨rfl, rfl⟩)
    · intro p hp ih 
      show mm_J g E mX8_nextOf (ret1 (.int (zmv (z_nx s l r (s 0 0)))) M) 5 [(0, .ref (E.1 35)), (1, .int (nI l)), (2, .int (nI r)), (3, .int (zmv (z_nx s l r p))), (4, .int (nI p))] [] (M)
      have gp1 := z_go_le Wo (p := p) (by omega)
      have gp2 := zcnt_le (z_of s p) (s 0 2)
      have gp3 := (Wp.2 p hp).2.2.1
      refine jr_iload hg 4 rfl dX8_nextOf_5 ?_
      refine jr_aload_n hg 0 rfl rfl dX8_nextOf_7 ?_
      refine gf_X8_154 hg (hI 35 (by decide)) dX8_nextOf_8 ?_
      refine jr_top (Rp.1) ?_
      refine jr_icmp_geN (tgt := 123) hg dX8_nextOf_11 (by decide) (by omega) (by omega) (fun h => by omega) (fun h11 => ?_)
      refine jr_aload_n hg 0 rfl rfl dX8_nextOf_14 ?_
      refine jr_iload hg 4 rfl dX8_nextOf_15 ?_
      refine jr_cV1v hg lk_X8_186 (hI 35 (by decide)) rfl rfl (by decide) (by decide) (Nat.le_of_ble_eq_true rfl) dX8_nextOf_17 (c_X8_isDone hI rall wall hp) ?_
      refine jr_if_neZ (tgt := 117) hg dX8_nextOf_20 (by decide) (fun h20 => ?_) (fun h20 => ?_)
      · refine jr_iinc hg 4 rfl (nI (_ + 1)) (nI_1 _) dX8_nextOf_117 (by decide) rfl ?_
        refine jr_goto (tgt := 5) hg dX8_nextOf_120 (by decide) ?_
        have e : z_nx s l r (p + 1) = z_nx s l r p := by rw [z_nx, h20]; rfl
        rw [e] at ih
        exact jr_lv [1, 2, 3, 4, 0] rfl ih
      · refine jr_aload_n hg 0 rfl rfl dX8_nextOf_23 ?_
        refine jr_iload_n hg 1 rfl rfl dX8_nextOf_24 ?_
        refine jr_iload hg 4 rfl dX8_nextOf_25 ?_
        refine jr_cV2v hg lk_X8_222 (hI 35 (by decide)) rfl rfl (by decide) (by decide) (Nat.le_of_ble_eq_true rfl) dX8_nextOf_27 (c_X8_lookOf hI rall wall hl hp) ?_
        refine jr_if_ge (tgt := 117) hg dX8_nextOf_30 (by decide) (fun h30 => ?_) (fun h30 => ?_)
        · refine jr_iinc hg 4 rfl (nI (_ + 1)) (nI_1 _) dX8_nextOf_117 (by decide) rfl ?_
          refine jr_goto (tgt := 5) hg dX8_nextOf_120 (by decide) ?_
          have e : z_nx s l r (p + 1) = z_nx s l r p := by rw [z_nx, if_neg (by have q : z_an s l p ≠ 0 := fun q => (zmv_sgn' (zfind_lt Wk l p)).mp h30 (z_an_f.mp q); simp [q])]
          rw [e] at ih
          exact jr_lv [1, 2, 3, 4, 0] rfl ih
        · have hbl := z_nx_le s l r p
          rcases hb : z_nx s l r p with _ | b
          · rw [hb] at hbl
            refine jr_iload_n hg 3 rfl rfl dX8_nextOf_33 ?_
            refine jr_if_ge (tgt := 41) hg dX8_nextOf_34 (by decide) (fun h => absurd h (zlt_nle zm1)) (fun h34 => ?_)
            refine jr_iconst hg (-1) dX8_nextOf_37 (by decide) ?_
            refine jr_goto (tgt := 53) hg dX8_nextOf_38 (by decide) ?_
            refine jr_istore hg dX8_nextOf_53 (by decide) rfl ?_
            refine jr_iload hg 0 rfl dX8_nextOf_55 ?_
            refine jr_if_ne (tgt := 79) hg dX8_nextOf_57 (by decide) (fun h57 => ?_) (fun h => absurd h (by decide))
            refine jr_iload hg 0 rfl dX8_nextOf_79 ?_
            refine jr_if_ne (tgt := 105) hg dX8_nextOf_81 (by decide) (fun h81 => ?_) (fun h => absurd h (by decide))
            refine jr_iload hg 0 rfl dX8_nextOf_105 ?_
            refine jr_if_ge (tgt := 115) hg dX8_nextOf_107 (by decide) (fun h => absurd h (by decide)) (fun h107 => ?_)
            refine jr_iload hg 5 rfl dX8_nextOf_110 ?_
            refine jr_goto (tgt := 116) hg dX8_nextOf_112 (by decide) ?_
            refine jr_istore_n hg dX8_nextOf_116 rfl (by decide) rfl ?_
            refine jr_iinc hg 5 rfl (nI (_ + 1)) (nI_1 _) dX8_nextOf_117 (by decide) rfl ?_
            refine jr_goto (tgt := 5) hg dX8_nextOf_120 (by decide) ?_
            have hz : z_an s l p = 0 := z_an_f.mpr (Decidable.byContradiction (fun q => h30 ((zmv_sgn' (zfind_lt Wk l p)).mpr q)))
            have e : z_nx s l r (p + 1) = p + 1 := by rw [z_nx, if_pos (by simp [h20, hz, hb])]
            rw [e, zmv_s] at ih
            exact jr_lv [3, 4, 5, 1, 0] rfl ih
          · rw [hb] at hbl
            rw [zmv_s]
            have gb1 := z_go_le Wo (p := b) (by omega)
            have gb2 := zcnt_le (z_of s b) (s 0 2)
            have gb3 := (Wp.2 b (by omega)).2.2.1
            refine jr_iload_n hg 3 rfl rfl dX8_nextOf_33 ?_
            refine jr_if_geN hg dX8_nextOf_34 (tgt := 41) (by decide) (by omega) ?_
            refine jr_aload_n hg 0 rfl rfl dX8_nextOf_41 ?_
            refine jr_iload hg 4 rfl dX8_nextOf_42 ?_
            refine jr_cV1v hg lk_X8_180 (hI 35 (by decide)) rfl rfl (by decide) (by decide) (Nat.le_of_ble_eq_true rfl) dX8_nextOf_44 (c_X8_looksAt hI rall wall hp) ?_
            refine jr_aload_n hg 0 rfl rfl dX8_nextOf_47 ?_
            refine jr_iload_n hg 3 rfl rfl dX8_nextOf_48 ?_
            refine jr_cV1v hg lk_X8_180 (hI 35 (by decide)) rfl rfl (by decide) (by decide) (Nat.le_of_ble_eq_true rfl) dX8_nextOf_49 (c_X8_looksAt hI rall wall (by omega)) ?_
            refine jr_isub hg dX8_nextOf_52 ?_
            refine jr_istore hg dX8_nextOf_53 (by decide) rfl ?_
            refine jr_iload hg 0 rfl dX8_nextOf_55 ?_
            refine jr_if_ne (tgt := 79) hg dX8_nextOf_57 (by decide) (fun h57 => ?_) (fun h57 => ?_)
            · refine jr_iload hg 0 rfl dX8_nextOf_79 ?_
              refine jr_if_ne (tgt := 105) hg dX8_nextOf_81 (by decide) (fun h81 => ?_) (fun h => absurd h h57)
              refine jr_iload hg 0 rfl dX8_nextOf_105 ?_
              refine jr_if_ge (tgt := 115) hg dX8_nextOf_107 (by decide) (fun h107 => ?_) (fun h107 => ?_)
              · refine jr_iload_n hg 4 rfl rfl dX8_nextOf_115 ?_
                refine jr_istore_n hg dX8_nextOf_116 rfl (by decide) rfl ?_
                refine jr_iinc hg 5 rfl (nI (_ + 1)) (nI_1 _) dX8_nextOf_117 (by decide) rfl ?_
                refine jr_goto (tgt := 5) hg dX8_nextOf_120 (by decide) ?_
                have hz : z_an s l p = 0 := z_an_f.mpr (Decidable.byContradiction (fun q => h30 ((zmv_sgn' (zfind_lt Wk l p)).mpr q)))
                have hsb : z_sb s p b r = false := by rw [z_sb, if_neg (fun q => h57 ((zsub_0 (by omega) (by omega)).mpr q)), decide_eq_false (by have w := (zsub_ge (by omega) (by omega)).mp h107; omega)]
                have e : z_nx s l r (p + 1) = z_nx s l r p := by rw [z_nx, if_neg (by simp [hb, hsb])]
                rw [hb] at e
                rw [e, zmv_s] at ih
                exact jr_lv [3, 4, 5, 1, 0] rfl ih
              · refine jr_iload hg 5 rfl dX8_nextOf_110 ?_
                refine jr_goto (tgt := 116) hg dX8_nextOf_112 (by decide) ?_
                refine jr_istore_n hg dX8_nextOf_116 rfl (by decide) rfl ?_
                refine jr_iinc hg 5 rfl (nI (_ + 1)) (nI_1 _) dX8_nextOf_117 (by decide) rfl ?_
                refine jr_goto (tgt := 5) hg dX8_nextOf_120 (by decide) ?_
                have hz : z_an s l p = 0 := z_an_f.mpr (Decidable.byContradiction (fun q => h30 ((zmv_sgn' (zfind_lt Wk l p)).mpr q)))
                have hsb : z_sb s p b r = true := by rw [z_sb, if_neg (fun q => h57 ((zsub_0 (by omega) (by omega)).mpr q)), decide_eq_true (by have w := Nat.lt_of_not_le (fun q => h107 ((zsub_ge (by omega) (by omega)).mpr q)); omega)]
                have e : z_nx s l r (p + 1) = p + 1 := by rw [z_nx, if_pos (by simp [h20, hz, hb, hsb])]
                rw [e, zmv_s] at ih
                exact jr_lv [3, 4, 5, 1, 0] rfl ih
            · refine jr_iload_n hg 3 rfl rfl dX8_nextOf_60 ?_
              refine jr_iconst hg (nI 1) dX8_nextOf_61 (by decide) ?_
              refine jr_icmp_neN (tgt := 79) hg dX8_nextOf_62 (by decide) (by omega) (by omega) (fun h62 => ?_) (fun h62 => ?_)
              · refine jr_iload hg 0 rfl dX8_nextOf_79 ?_
                refine jr_if_ne (tgt := 105) hg dX8_nextOf_81 (by decide) (fun h => absurd h57 h) (fun h81 => ?_)
                refine jr_iload_n hg 3 rfl rfl dX8_nextOf_84 ?_
                refine jr_iconst hg (nI 2) dX8_nextOf_85 (by decide) ?_
                refine jr_icmp_neN (tgt := 105) hg dX8_nextOf_86 (by decide) (by omega) (by omega) (fun h86 => ?_) (fun h86 => ?_)
                · refine jr_iload hg 0 rfl dX8_nextOf_105 ?_
                  refine jr_if_ge (tgt := 115) hg dX8_nextOf_107 (by decide) (fun h107 => ?_) (fun h => (h (by rw [h57]; decide)).elim)
                  refine jr_iload_n hg 4 rfl rfl dX8_nextOf_115 ?_
                  refine jr_istore_n hg dX8_nextOf_116 rfl (by decide) rfl ?_
                  refine jr_iinc hg 5 rfl (nI (_ + 1)) (nI_1 _) dX8_nextOf_117 (by decide) rfl ?_
                  refine jr_goto (tgt := 5) hg dX8_nextOf_120 (by decide) ?_
                  have hz : z_an s l p = 0 := z_an_f.mpr (Decidable.byContradiction (fun q => h30 ((zmv_sgn' (zfind_lt Wk l p)).mpr q)))
                  have hsb : z_sb s p b r = false := by rw [z_sb, if_pos ((zsub_0 (by omega) (by omega)).mp h57), if_neg h62, decide_eq_false (by omega)]
                  have e : z_nx s l r (p + 1) = z_nx s l r p := by rw [z_nx, if_neg (by simp [hb, hsb])]
                  rw [hb] at e
                  rw [e, zmv_s] at ih
                  exact jr_lv [3, 4, 5, 1, 0] rfl ih
                · refine jr_aload_n hg 1 rfl rfl dX8_nextOf_89 ?_
                  refine gf_X8_29 hg (hI 35 (by decide)) dX8_nextOf_90 ?_
                  refine jr_iload_n hg 4 rfl rfl dX8_nextOf_93 ?_
                  refine jr_ialdN hg (n := 24) (by omega) (by decide) (hI 41 (by decide)) (ac_41 _ _) dX8_nextOf_94 ?_
                  refine jr_top ((Rp.2 _ (by omega)).2.2.1) ?_
                  refine jr_aload_n hg 1 rfl rfl dX8_nextOf_95 ?_
                  refine gf_X8_29 hg (hI 35 (by decide)) dX8_nextOf_96 ?_
                  refine jr_iload hg 5 rfl dX8_nextOf_99 ?_
                  refine jr_ialdN hg (n := 24) (by omega) (by decide) (hI 41 (by decide)) (ac_41 _ _) dX8_nextOf_101 ?_
                  refine jr_top ((Rp.2 _ (by omega)).2.2.1) ?_
                  refine jr_isub hg dX8_nextOf_102 ?_
                  refine jr_istore hg dX8_nextOf_103 (by decide) rfl ?_
                  refine jr_iload hg 0 rfl dX8_nextOf_105 ?_
                  refine jr_if_ge (tgt := 115) hg dX8_nextOf_107 (by decide) (fun h107 => ?_) (fun h107 => ?_)
                  · refine jr_iload_n hg 4 rfl rfl dX8_nextOf_115 ?_
                    refine jr_istore_n hg dX8_nextOf_116 rfl (by decide) rfl ?_
                    refine jr_iinc hg 5 rfl (nI (_ + 1)) (nI_1 _) dX8_nextOf_117 (by decide) rfl ?_
                    refine jr_goto (tgt := 5) hg dX8_nextOf_120 (by decide) ?_
                    have hz : z_an s l p = 0 := z_an_f.mpr (Decidable.byContradiction (fun q => h30 ((zmv_sgn' (zfind_lt Wk l p)).mpr q)))
                    have hsb : z_sb s p b r = false := by rw [z_sb, if_pos ((zsub_0 (by omega) (by omega)).mp h57), if_neg h62, decide_eq_false (by have w := (zsub_ge (by omega) (by omega)).mp h107; omega)]
                    have e : z_nx s l r (p + 1) = z_nx s l r p := by rw [z_nx, if_neg (by simp [hb, hsb])]
                    rw [hb] at e
                    rw [e, zmv_s] at ih
                    exact jr_lv [3, 4, 5, 1, 0] rfl ih
                  · refine jr_iload hg 5 rfl dX8_nextOf_110 ?_
                    refine jr_goto (tgt := 116) hg dX8_nextOf_112 (by decide) ?_
                    refine jr_istore_n hg dX8_nextOf_116 rfl (by decide) rfl ?_
                    refine jr_iinc hg 5 rfl (nI (_ + 1)) (nI_1 _) dX8_nextOf_117 (by decide) rfl ?_
                    refine jr_goto (tgt := 5) hg dX8_nextOf_120 (by decide) ?_
                    have hz : z_an s l p = 0 := z_an_f.mpr (Decidable.byContradiction (fun q => h30 ((zmv_sgn' (zfind_lt Wk l p)).mpr q)))
                    have hsb : z_sb s p b r = true := by rw [z_sb, if_pos ((zsub_0 (by omega) (by omega)).mp h57), if_neg h62, decide_eq_true (by have w := Nat.lt_of_not_le (fun q => h107 ((zsub_ge (by omega) (by omega)).mpr q)); omega)]
                    have e : z_nx s l r (p + 1) = p + 1 := by rw [z_nx, if_pos (by simp [h20, hz, hb, hsb])]
                    rw [e, zmv_s] at ih
                    exact jr_lv [3, 4, 5, 1, 0] rfl ih
              · refine jr_aload_n hg 1 rfl rfl dX8_nextOf_65 ?_
                refine jr_iload hg 5 rfl dX8_nextOf_66 ?_
                refine jr_cV1v hg lk_X8_177 (hI 35 (by decide)) rfl rfl (by decide) (by decide) (Nat.le_of_ble_eq_true rfl) dX8_nextOf_68 (c_X8_greatestOdds hI rall wall hp) ?_
                refine jr_aload_n hg 1 rfl rfl dX8_nextOf_71 ?_
                refine jr_iload_n hg 4 rfl rfl dX8_nextOf_72 ?_
                refine jr_cV1v hg lk_X8_177 (hI 35 (by decide)) rfl rfl (by decide) (by decide) (Nat.le_of_ble_eq_true rfl) dX8_nextOf_73 (c_X8_greatestOdds hI rall wall (by omega)) ?_
                refine jr_isub hg dX8_nextOf_76 ?_
                refine jr_istore hg dX8_nextOf_77 (by decide) rfl ?_
                refine jr_iload hg 0 rfl dX8_nextOf_79 ?_
                refine jr_if_ne (tgt := 105) hg dX8_nextOf_81 (by decide) (fun h81 => ?_) (fun h81 => ?_)
                · refine jr_iload hg 0 rfl dX8_nextOf_105 ?_
                  refine jr_if_ge (tgt := 115) hg dX8_nextOf_107 (by decide) (fun h107 => ?_) (fun h107 => ?_)
                  · refine jr_iload_n hg 4 rfl rfl dX8_nextOf_115 ?_
                    refine jr_istore_n hg dX8_nextOf_116 rfl (by decide) rfl ?_
                    refine jr_iinc hg 5 rfl (nI (_ + 1)) (nI_1 _) dX8_nextOf_117 (by decide) rfl ?_
                    refine jr_goto (tgt := 5) hg dX8_nextOf_120 (by decide) ?_
                    have hz : z_an s l p = 0 := z_an_f.mpr (Decidable.byContradiction (fun q => h30 ((zmv_sgn' (zfind_lt Wk l p)).mpr q)))
                    have hsb : z_sb s p b r = false := by rw [z_sb, if_pos ((zsub_0 (by omega) (by omega)).mp h57), if_pos h62, decide_eq_false (by have w := (zsub_ge (by omega) (by omega)).mp h107; omega)]
                    have e : z_nx s l r (p + 1) = z_nx s l r p := by rw [z_nx, if_neg (by simp [hb, hsb])]
                    rw [hb] at e
                    rw [e, zmv_s] at ih
                    exact jr_lv [3, 4, 5, 1, 0] rfl ih
                  · refine jr_iload hg 5 rfl dX8_nextOf_110 ?_
                    refine jr_goto (tgt := 116) hg dX8_nextOf_112 (by decide) ?_
                    refine jr_istore_n hg dX8_nextOf_116 rfl (by decide) rfl ?_
                    refine jr_iinc hg 5 rfl (nI (_ + 1)) (nI_1 _) dX8_nextOf_117 (by decide) rfl ?_
                    refine jr_goto (tgt := 5) hg dX8_nextOf_120 (by decide) ?_
                    have hz : z_an s l p = 0 := z_an_f.mpr (Decidable.byContradiction (fun q => h30 ((zmv_sgn' (zfind_lt Wk l p)).mpr q)))
                    have hsb : z_sb s p b r = true := by rw [z_sb, if_pos ((zsub_0 (by omega) (by omega)).mp h57), if_pos h62, decide_eq_true (by have w := Nat.lt_of_not_le (fun q => h107 ((zsub_ge (by omega) (by omega)).mpr q)); omega)]
                    have e : z_nx s l r (p + 1) = p + 1 := by rw [z_nx, if_pos (by simp [h20, hz, hb, hsb])]
                    rw [e, zmv_s] at ih
                    exact jr_lv [3, 4, 5, 1, 0] rfl ih
                · refine jr_iload_n hg 3 rfl rfl dX8_nextOf_84 ?_
                  refine jr_iconst hg (nI 2) dX8_nextOf_85 (by decide) ?_
                  refine jr_icmp_neN (tgt := 105) hg dX8_nextOf_86 (by decide) (by omega) (by omega) (fun h86 => ?_) (fun h => by omega)
                  refine jr_iload hg 0 rfl dX8_nextOf_105 ?_
                  refine jr_if_ge (tgt := 115) hg dX8_nextOf_107 (by decide) (fun h107 => ?_) (fun h => (h (by rw [h81]; decide)).elim)
                  refine jr_iload_n hg 4 rfl rfl dX8_nextOf_115 ?_
                  refine jr_istore_n hg dX8_nextOf_116 rfl (by decide) rfl ?_
                  refine jr_iinc hg 5 rfl (nI (_ + 1)) (nI_1 _) dX8_nextOf_117 (by decide) rfl ?_
                  refine jr_goto (tgt := 5) hg dX8_nextOf_120 (by decide) ?_
                  have hz : z_an s l p = 0 := z_an_f.mpr (Decidable.byContradiction (fun q => h30 ((zmv_sgn' (zfind_lt Wk l p)).mpr q)))
                  have hsb : z_sb s p b r = false := by rw [z_sb, if_pos ((zsub_0 (by omega) (by omega)).mp h57), if_pos h62, decide_eq_false (by have w := (zsub_0 (by omega) (by omega)).mp h81; omega)]
                  have e : z_nx s l r (p + 1) = z_nx s l r p := by rw [z_nx, if_neg (by simp [hb, hsb])]
                  rw [hb] at e
                  rw [e, zmv_s] at ih
                  exact jr_lv [3, 4, 5, 1, 0] rfl ih
  exact jr_lv [2, 3, 4, 1, 0] rfl (lp5 0 (by omega))

theorem zR_addp {s : zS} {M : mm_M} (hR : zR_p s M) (k f d kn m : Nat) : zR_p (zaddp s k f d kn m) (mm_si (mm_si (mm_si (mm_si (mm_si (mm_si M 39 (upd (M.1 39) (s 0 0) (nI k))) 40 (upd (M.1 40) (s 0 0) (nI f))) 41 (upd (M.1 41) (s 0 0) (nI d))) 42 (upd (M.1 42) (s 0 0) (nI kn))) 43 (upd (M.1 43) (s 0 0) (zmv m))) 35 (upd (M.1 35) 9 (nI (s 0 0 + 1)))) := by
  refine ⟨rfl, fun p hp => ?_⟩
  have hp : p < s 0 0 + 1 := hp
  show upd (M.1 39) (s 0 0) (nI k) p = nI (zup (s 1) (s 0 0) k p) ∧ upd (M.1 40) (s 0 0) (nI f) p = nI (zup (s 2) (s 0 0) f p) ∧ upd (M.1 41) (s 0 0) (nI d) p = nI (zup (s 3) (s 0 0) d p) ∧ upd (M.1 42) (s 0 0) (nI kn) p = nI (zup (s 4) (s 0 0) kn p) ∧ upd (M.1 43) (s 0 0) (zmv m) p = zmv (zup (s 5) (s 0 0) m p)
  by_cases e : p = s 0 0
  · rw [e, upd_s, upd_s, upd_s, upd_s, upd_s, zup_s, zup_s, zup_s, zup_s, zup_s]
    exact ⟨rfl, rfl, rfl, rfl, rfl⟩
  · rw [upd_n e, upd_n e, upd_n e, upd_n e, upd_n e, zup_n e, zup_n e, zup_n e, zup_n e, zup_n e]
    exact hR.2 p (by omega)
theorem zR_addP {s : zS} {M : mm_M} (h : zR s M) (k f d kn m : Nat) : zR (zaddp s k f d kn m) (mm_si (mm_si (mm_si (mm_si (mm_si (mm_si M 39 (upd (M.1 39) (s 0 0) (nI k))) 40 (upd (M.1 40) (s 0 0) (nI f))) 41 (upd (M.1 41) (s 0 0) (nI d))) 42 (upd (M.1 42) (s 0 0) (nI kn))) 43 (upd (M.1 43) (s 0 0) (zmv m))) 35 (upd (M.1 35) 9 (nI (s 0 0 + 1)))) := by
  obtain ⟨a, b, c, d0, e, f0, g, q⟩ := h
  exact ⟨zR_addp a k f d kn m, b, c, d0, e, f0, g, q⟩
def zaddkR (s : zS) (M : mm_M) (l p a : Nat) : mm_M := mm_si (mm_si (mm_si (mm_si M 45 (upd (M.1 45) (s 0 2) (nI l))) 46 (upd (M.1 46) (s 0 2) (nI p))) 47 (upd (M.1 47) (s 0 2) (nI a))) 35 (upd (M.1 35) 17 (nI (s 0 2 + 1)))
theorem zR_addk {s : zS} {M : mm_M} (h : zR s M) (l p a : Nat) : zR (zaddk s l p a) (zaddkR s M l p a) := by
  obtain ⟨a1, b, c, d0, e, f0, g, q⟩ := h
  refine ⟨a1, b, ⟨rfl, fun k hk => ?_⟩, d0, e, f0, g, q⟩
  have hk : k < s 0 2 + 1 := hk
  show upd (M.1 45) (s 0 2) (nI l) k = nI (zup (s 7) (s 0 2) l k) ∧ upd (M.1 46) (s 0 2) (nI p) k = nI (zup (s 8) (s 0 2) p k) ∧ upd (M.1 47) (s 0 2) (nI a) k = nI (zup (s 9) (s 0 2) a k)
  by_cases e : k = s 0 2
  · rw [e, upd_s, upd_s, upd_s, zup_s, zup_s, zup_s]
    exact ⟨rfl, rfl, rfl⟩
  · rw [upd_n e, upd_n e, upd_n e, zup_n e, zup_n e, zup_n e]
    exact c.2 k (by omega)

set_option maxRecDepth 100000 in
theorem c_X8_add_full {E : mm_E} (hI : mm_FR E) {M : mm_M} {s : zS} (hR : zR_p s M) (hW : zW_p s) {k f d kn o : Int32} (hfull : s 0 0 = 24) : mm_Cal E mX8_add [.ref (E.1 35), .int k, .int f, .int d, .int kn, .int o] M (ret1 (.int (-1004)) M) := by
  have hn := hW.1
  refine jr_entry RX8 (by decide +kernel) (Nat.le_of_ble_eq_true rfl) (fun g hg => ?_)
  refine jr_lv (lv' := [(0, .ref (E.1 35)), (1, .int k), (2, .int f), (3, .int d), (4, .int kn), (5, .int o)]) [0, 1, 2, 3, 4, 5] rfl ?_
  refine jr_aload_n hg 0 rfl rfl dX8_add_0 ?_
  refine gf_X8_154 hg (hI 35 (by decide)) dX8_add_1 ?_
  refine jr_top (hR.1) ?_
  refine jr_bipush hg (nI 24) dX8_add_4 (by decide) ?_
  refine jr_icmp_neN (tgt := 13) hg dX8_add_6 (by decide) (by omega) (by omega) (fun h => by omega) (fun h6 => ?_)
  refine jr_sipush hg (-1004) dX8_add_9 (by decide) ?_
  exact jr_iret hg rfl dX8_add_12 (⟨rfl, rfl⟩)

set_option maxRecDepth 100000 in
theorem c_X8_add {E : mm_E} (hI : mm_FR E) {M : mm_M} {s : zS} (hR : zR_p s M) (hW : zW_p s) {k f d kn o : Int32} (hfull : s 0 0 < 24) (hkn : kn = nI 0 ∨ kn = nI 1) : mm_Cal E mX8_add [.ref (E.1 35), .int k, .int f, .int d, .int kn, .int o] M (ret1 (.int (nI (s 0 0))) (mm_si (mm_si (mm_si (mm_si (mm_si (mm_si M 39 (upd (M.1 39) (s 0 0) k)) 40 (upd (M.1 40) (s 0 0) f)) 41 (upd (M.1 41) (s 0 0) d)) 42 (upd (M.1 42) (s 0 0) kn)) 43 (upd (M.1 43) (s 0 0) o)) 35 (upd (M.1 35) 9 (nI (s 0 0 + 1))))) := by
  have hn := hW.1
  refine jr_entry RX8 (by decide +kernel) (Nat.le_of_ble_eq_true rfl) (fun g hg => ?_)
  refine jr_lv (lv' := [(0, .ref (E.1 35)), (1, .int k), (2, .int f), (3, .int d), (4, .int kn), (5, .int o)]) [0, 1, 2, 3, 4, 5] rfl ?_
  refine jr_aload_n hg 0 rfl rfl dX8_add_0 ?_
  refine gf_X8_154 hg (hI 35 (by decide)) dX8_add_1 ?_
  refine jr_top (hR.1) ?_
  refine jr_bipush hg (nI 24) dX8_add_4 (by decide) ?_
  refine jr_icmp_neN (tgt := 13) hg dX8_add_6 (by decide) (by omega) (by omega) (fun h6 => ?_) (fun h => by omega)
  refine jr_aload_n hg 0 rfl rfl dX8_add_13 ?_
  refine gf_X8_23 hg (hI 35 (by decide)) dX8_add_14 ?_
  refine jr_aload_n hg 0 rfl rfl dX8_add_17 ?_
  refine gf_X8_154 hg (hI 35 (by decide)) dX8_add_18 ?_
  refine jr_top (hR.1) ?_
  refine jr_iload_n hg 1 rfl rfl dX8_add_21 ?_
  refine jr_iastN hg (n := 24) (by omega) (by decide) (hI 39 (by decide)) (ac_39) dX8_add_22 ?_
  refine jr_aload_n hg 0 rfl rfl dX8_add_23 ?_
  refine gf_X8_26 hg (hI 35 (by decide)) dX8_add_24 ?_
  refine jr_aload_n hg 0 rfl rfl dX8_add_27 ?_
  refine gf_X8_154 hg (hI 35 (by decide)) dX8_add_28 ?_
  refine jr_top (hR.1) ?_
  refine jr_iload_n hg 2 rfl rfl dX8_add_31 ?_
  refine jr_iastN hg (n := 24) (by omega) (by decide) (hI 40 (by decide)) (ac_40) dX8_add_32 ?_
  refine jr_aload_n hg 0 rfl rfl dX8_add_33 ?_
  refine gf_X8_29 hg (hI 35 (by decide)) dX8_add_34 ?_
  refine jr_aload_n hg 0 rfl rfl dX8_add_37 ?_
  refine gf_X8_154 hg (hI 35 (by decide)) dX8_add_38 ?_
  refine jr_top (hR.1) ?_
  refine jr_iload_n hg 3 rfl rfl dX8_add_41 ?_
  refine jr_iastN hg (n := 24) (by omega) (by decide) (hI 41 (by decide)) (ac_41) dX8_add_42 ?_
  refine jr_aload_n hg 0 rfl rfl dX8_add_43 ?_
  refine gf_X8_32 hg (hI 35 (by decide)) dX8_add_44 ?_
  refine jr_aload_n hg 0 rfl rfl dX8_add_47 ?_
  refine gf_X8_154 hg (hI 35 (by decide)) dX8_add_48 ?_
  refine jr_top (hR.1) ?_
  refine jr_iload hg 4 rfl dX8_add_51 ?_
  refine jr_zastN hg (by first | exact Or.inl rfl | exact Or.inr rfl | exact z01 _ | assumption) (n := 24) (by omega) (by decide) (hI 42 (by decide)) (ac_42) dX8_add_53 ?_
  refine jr_aload_n hg 0 rfl rfl dX8_add_54 ?_
  refine gf_X8_36 hg (hI 35 (by decide)) dX8_add_55 ?_
  refine jr_aload_n hg 0 rfl rfl dX8_add_58 ?_
  refine gf_X8_154 hg (hI 35 (by decide)) dX8_add_59 ?_
  refine jr_top (hR.1) ?_
  refine jr_iload hg 5 rfl dX8_add_62 ?_
  refine jr_iastN hg (n := 24) (by omega) (by decide) (hI 43 (by decide)) (ac_43) dX8_add_64 ?_
  refine jr_aload_n hg 0 rfl rfl dX8_add_65 ?_
  refine jr_dup hg dX8_add_66 rfl ?_
  refine gf_X8_154 hg (hI 35 (by decide)) dX8_add_67 ?_
  refine jr_top (hR.1) ?_
  refine jr_iconst hg (nI 1) dX8_add_70 (by decide) ?_
  refine jr_iaddN hg dX8_add_71 ?_
  refine pf_X8_154 hg (hI 35 (by decide)) dX8_add_72 ?_
  refine jr_aload_n hg 0 rfl rfl dX8_add_75 ?_
  refine gf_X8_154 hg (hI 35 (by decide)) dX8_add_76 ?_
  refine jr_top ((rfl : _ = nI (s 0 0 + 1))) ?_
  refine jr_iconst hg (nI 1) dX8_add_79 (by decide) ?_
  refine jr_isubN hg dX8_add_80 (by omega) ?_
  exact jr_iret hg rfl dX8_add_81 (⟨rfl, rfl⟩)

set_option maxRecDepth 100000 in
theorem c_X8_addLook {E : mm_E} (hI : mm_FR E) {M : mm_M} {s : zS} (hR : zR_k s M) (hfull : s 0 2 < 200) {l p a : Nat} : mm_Cal E mX8_addLook [.ref (E.1 35), .int (nI l), .int (nI p), .int (nI a)] M (ret1 (.int (nI (s 0 2))) (zaddkR s M l p a)) := by
  refine jr_entry RX8 (by decide +kernel) (Nat.le_of_ble_eq_true rfl) (fun g hg => ?_)
  refine jr_lv (lv' := [(0, .ref (E.1 35)), (1, .int (nI l)), (2, .int (nI p)), (3, .int (nI a))]) [0, 1, 2, 3] rfl ?_
  refine jr_aload_n hg 0 rfl rfl dX8_addLook_0 ?_
  refine gf_X8_42 hg (hI 35 (by decide)) dX8_addLook_1 ?_
  refine jr_aload_n hg 0 rfl rfl dX8_addLook_4 ?_
  refine gf_X8_174 hg (hI 35 (by decide)) dX8_addLook_5 ?_
  refine jr_top (hR.1) ?_
  refine jr_iload_n hg 1 rfl rfl dX8_addLook_8 ?_
  refine jr_iastN hg (n := 200) (by omega) (by decide) (hI 45 (by decide)) (ac_45) dX8_addLook_9 ?_
  refine jr_aload_n hg 0 rfl rfl dX8_addLook_10 ?_
  refine gf_X8_45 hg (hI 35 (by decide)) dX8_addLook_11 ?_
  refine jr_aload_n hg 0 rfl rfl dX8_addLook_14 ?_
  refine gf_X8_174 hg (hI 35 (by decide)) dX8_addLook_15 ?_
  refine jr_top (hR.1) ?_
  refine jr_iload_n hg 2 rfl rfl dX8_addLook_18 ?_
  refine jr_iastN hg (n := 200) (by omega) (by decide) (hI 46 (by decide)) (ac_46) dX8_addLook_19 ?_
  refine jr_aload_n hg 0 rfl rfl dX8_addLook_20 ?_
  refine gf_X8_48 hg (hI 35 (by decide)) dX8_addLook_21 ?_
  refine jr_aload_n hg 0 rfl rfl dX8_addLook_24 ?_
  refine gf_X8_174 hg (hI 35 (by decide)) dX8_addLook_25 ?_
  refine jr_top (hR.1) ?_
  refine jr_iload_n hg 3 rfl rfl dX8_addLook_28 ?_
  refine jr_iastN hg (n := 200) (by omega) (by decide) (hI 47 (by decide)) (ac_47) dX8_addLook_29 ?_
  refine jr_aload_n hg 0 rfl rfl dX8_addLook_30 ?_
  refine jr_dup hg dX8_addLook_31 rfl ?_
  refine gf_X8_174 hg (hI 35 (by decide)) dX8_addLook_32 ?_
  refine jr_top (hR.1) ?_
  refine jr_iconst hg (nI 1) dX8_addLook_35 (by decide) ?_
  refine jr_iaddN hg dX8_addLook_36 ?_
  refine pf_X8_174 hg (hI 35 (by decide)) dX8_addLook_37 ?_
  refine jr_aload_n hg 0 rfl rfl dX8_addLook_40 ?_
  refine gf_X8_174 hg (hI 35 (by decide)) dX8_addLook_41 ?_
  refine jr_top ((rfl : _ = nI (s 0 2 + 1))) ?_
  refine jr_iconst hg (nI 1) dX8_addLook_44 (by decide) ?_
  refine jr_isubN hg dX8_addLook_45 (by omega) ?_
  exact jr_iret hg rfl dX8_addLook_46 (⟨rfl, rfl⟩)
