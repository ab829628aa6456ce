set_option maxRecDepth 100000 in
theorem c_X8_lean {E : mm_E} (hI : mm_FR E) {M : mm_M} {s : zS} (hR : zR s M) (hW : zW s) (l w : Int32) : mm_Cal E mX8_lean [.ref (E.1 35), .int l, .int w] M (fun v M' => v = some (.int (zq_lean s l w).1) ∧ zR (zq_lean s l w).2 M') := by
  obtain ⟨Rp, Rl, Rk, Rw, Rt, Rd, Ro, Rq⟩ := hR
  obtain ⟨Wp, Wl, Wk, Ww, Wt, Wd, Wo, Wq⟩ := hW
  have hnp := Wp.1
  have hnl := Wl.1
  have hnk := Wk.1
  have rall : zR s M := ⟨Rp, Rl, Rk, Rw, Rt, Rd, Ro, Rq⟩
  have wall : zW s := ⟨Wp, Wl, Wk, Ww, Wt, Wd, Wo, Wq⟩
  refine jr_entry RX8 (by decide +kernel) (Nat.le_of_ble_eq_true rfl) (fun g hg => ?_)
  refine jr_lv (lv' := [(0, .ref (E.1 35)), (1, .int l), (2, .int w)]) [0, 1, 2] rfl ?_
  refine jr_aload_n hg 0 rfl rfl dX8_lean_0 ?_
  refine jr_iload_n hg 1 rfl rfl dX8_lean_1 ?_
  refine jr_cV1v hg lk_X8_217 (hI 35 (by decide)) rfl rfl (by decide) (by decide) (Nat.le_of_ble_eq_true rfl) dX8_lean_2 (c_X8_noLooker hI rall wall l) ?_
  refine jr_if_eqZ (tgt := 12) hg dX8_lean_5 (by decide) (fun h5 => ?_) (fun h5 => ?_)
  · refine jr_iload_n hg 2 rfl rfl dX8_lean_12 ?_
    refine jr_i2l hg _ dX8_lean_13 rfl ?_
    refine jr_lconst hg (lN 0) dX8_lean_14 (by decide) ?_
    refine jr_lconst hg (lN 1) dX8_lean_15 (by decide) ?_
    refine jr_cS3v hg lk_X8_100 (by decide) (by decide) (Nat.le_of_ble_eq_true rfl) dX8_lean_16 (c_X8_in0 hI w rfl (by decide)) ?_
    refine jr_if_neZ (tgt := 26) hg dX8_lean_19 (by decide) (fun h19 => ?_) (fun h19 => ?_)
    · have zh5 := zbn h5
      obtain ⟨l1, hl, rfl⟩ := zin_of (by omega) zh5
      obtain ⟨w1, hw, rfl⟩ := zin_of (by decide) h19
      refine jr_iconst hg (nI 0) dX8_lean_26 (by decide) ?_
      refine jr_istore_n hg dX8_lean_27 rfl (by decide) rfl ?_
      refine jr_iconst hg (nI 0) dX8_lean_28 (by decide) ?_
      refine jr_istore hg dX8_lean_29 (by decide) rfl ?_
      refine jr_iconst hg (nI 0) dX8_lean_31 (by decide) ?_
      refine jr_istore hg dX8_lean_32 (by decide) rfl ?_
      have lp34 : ∀ p : Nat, p ≤ s 0 0 →  mm_J g E mX8_lean (fun v M' => v = some (.int (zq_lean s (nI l1) (nI w1)).1) ∧ zR (zq_lean s (nI l1) (nI w1)).2 M') 34 [(0, .ref (E.1 35)), (1, .int (nI l1)), (2, .int (nI w1)), (3, .int (nI ((z_pak s l1 p)))), (4, .int (z_off s l1 p)), (5, .int (nI p))] [] (M) := by
        refine jr_up (S := fun p =>  mm_J g E mX8_lean (fun v M' => v = some (.int (zq_lean s (nI l1) (nI w1)).1) ∧ zR (zq_lean s (nI l1) (nI w1)).2 M') 34 [(0, .ref (E.1 35)), (1, .int (nI l1)), (2, .int (nI w1)), (3, .int (nI ((z_pak s l1 p)))), (4, .int (z_off s l1 p)), (5, .int (nI p))] [] (M)) (n := s 0 0) ?_ ?_
        · show mm_J g E mX8_lean (fun v M' => v = some (.int (zq_lean s (nI l1) (nI w1)).1) ∧ zR (zq_lean s (nI l1) (nI w1)).2 M') 34 [(0, .ref (E.1 35)), (1, .int (nI l1)), (2, .int (nI w1)), (3, .int (nI ((z_pak s l1 (s 0 0))))), (4, .int (z_off s l1 (s 0 0))), (5, .int (nI (s 0 0)))] [] (M)
          have hpk : z_pak s l1 (s 0 0) ≤ 4 * 24 := by have c1 := zcnt_le (z_mp s l1 1 1) (s 0 0); have c2 := zcnt_le (z_mp s l1 2 2) (s 0 0); have c3 := zcnt_le (z_mp s l1 1 2) (s 0 0); have c4 := zcnt_le (z_mp s l1 2 1) (s 0 0); rw [z_pak]; omega
          refine jr_iload hg 5 rfl dX8_lean_34 ?_
          refine jr_aload_n hg 0 rfl rfl dX8_lean_36 ?_
          refine gf_X8_154 hg (hI 35 (by decide)) dX8_lean_37 ?_
          refine jr_top (Rp.1) ?_
          refine jr_icmp_geN (tgt := 177) hg dX8_lean_40 (by decide) (by omega) (by omega) (fun h40 => ?_) (fun h => by omega)
          refine jr_iload_n hg 2 rfl rfl dX8_lean_177 ?_
          refine jr_iconst hg (nI 1) dX8_lean_178 (by decide) ?_
          refine jr_icmp_neN (tgt := 186) hg dX8_lean_179 (by decide) (by omega) (by omega) (fun h179 => ?_) (fun h179 => ?_)
          · refine jr_iload_n hg 3 rfl rfl dX8_lean_186 ?_
            refine jr_if_neN (tgt := 194) hg dX8_lean_187 (by decide) (by omega) (fun h187 => ?_) (fun h187 => ?_)
            · refine jr_sipush hg (nI 1000) dX8_lean_194 (by decide) ?_
              refine jr_iload hg 4 rfl dX8_lean_197 ?_
              refine jr_bipush hg (nI 100) dX8_lean_199 (by decide) ?_
              refine jr_imul hg dX8_lean_201 ?_
              refine jr_iload_n hg 3 rfl rfl dX8_lean_202 ?_
              refine jr_idiv hg dX8_lean_203 (nI_ne0 (by omega) (by omega)) ?_
              refine jr_iadd hg dX8_lean_204 ?_
              exact jr_iret hg rfl dX8_lean_205 (zq_okR (by rw [zq_lean, if_pos zh5, if_pos h19, zn_nI (by omega), zn_nI (by omega), z_lean, if_neg h179, if_neg (show ¬ z_pa s l1 = 0 from fun q => by have : z_pak s l1 (s 0 0) = 0 := q; omega)]; rfl) rall)
            · refine jr_iconst hg (-1) dX8_lean_190 (by decide) ?_
              refine jr_goto (tgt := 205) hg dX8_lean_191 (by decide) ?_
              exact jr_iret hg rfl dX8_lean_205 (zq_okR (by rw [zq_lean, if_pos zh5, if_pos h19, zn_nI (by omega), zn_nI (by omega), z_lean, if_neg h179, if_pos (show z_pa s l1 = 0 from h187)]) rall)
          · refine jr_iload_n hg 3 rfl rfl dX8_lean_182 ?_
            refine jr_goto (tgt := 205) hg dX8_lean_183 (by decide) ?_
            exact jr_iret hg rfl dX8_lean_205 (zq_okR (by rw [zq_lean, if_pos zh5, if_pos h19, zn_nI (by omega), zn_nI (by omega), z_lean, if_pos h179]; rfl) rall)
        · intro p hp ih 
          show mm_J g E mX8_lean (fun v M' => v = some (.int (zq_lean s (nI l1) (nI w1)).1) ∧ zR (zq_lean s (nI l1) (nI w1)).2 M') 34 [(0, .ref (E.1 35)), (1, .int (nI l1)), (2, .int (nI w1)), (3, .int (nI ((z_pak s l1 p)))), (4, .int (z_off s l1 p)), (5, .int (nI p))] [] (M)
          have hpk : z_pak s l1 p ≤ 4 * 24 := by have c1 := zcnt_le (z_mp s l1 1 1) p; have c2 := zcnt_le (z_mp s l1 2 2) p; have c3 := zcnt_le (z_mp s l1 1 2) p; have c4 := zcnt_le (z_mp s l1 2 1) p; rw [z_pak]; omega
          refine jr_iload hg 5 rfl dX8_lean_34 ?_
          refine jr_aload_n hg 0 rfl rfl dX8_lean_36 ?_
          refine gf_X8_154 hg (hI 35 (by decide)) dX8_lean_37 ?_
          refine jr_top (Rp.1) ?_
          refine jr_icmp_geN (tgt := 177) hg dX8_lean_40 (by decide) (by omega) (by omega) (fun h => by omega) (fun h40 => ?_)
          refine jr_aload_n hg 0 rfl rfl dX8_lean_43 ?_
          refine gf_X8_36 hg (hI 35 (by decide)) dX8_lean_44 ?_
          refine jr_iload hg 5 rfl dX8_lean_47 ?_
          refine jr_ialdN hg (n := 24) (by omega) (by decide) (hI 43 (by decide)) (ac_43 _ _) dX8_lean_49 ?_
          refine jr_top ((Rp.2 _ (by omega)).2.2.2.2) ?_
          refine jr_if_ge (tgt := 57) hg dX8_lean_50 (by decide) (fun h50 => ?_) (fun h50 => ?_)
          · have hm0 : s 5 p ≠ 0 := (zmv_sgn' (zW_mo Wp hp)).mp h50
            have hm1 := (Wp.2 p hp).2.2.2.2
            have hm2 : zmv (s 5 p) = nI (s 5 p - 1) := by rw [zmv, if_neg hm0]
            refine jr_aload_n hg 0 rfl rfl dX8_lean_57 ?_
            refine jr_iload_n hg 1 rfl rfl dX8_lean_58 ?_
            refine jr_aload_n hg 0 rfl rfl dX8_lean_59 ?_
            refine gf_X8_36 hg (hI 35 (by decide)) dX8_lean_60 ?_
            refine jr_iload hg 5 rfl dX8_lean_63 ?_
            refine jr_ialdN hg (n := 24) (by omega) (by decide) (hI 43 (by decide)) (ac_43 _ _) dX8_lean_65 ?_
            refine jr_top ((Rp.2 _ (by omega)).2.2.2.2.trans hm2) ?_
            refine jr_cV2v hg lk_X8_222 (hI 35 (by decide)) rfl rfl (by decide) (by decide) (Nat.le_of_ble_eq_true rfl) dX8_lean_66 (c_X8_lookOf hI rall wall hl (by omega)) ?_
            refine jr_istore hg dX8_lean_69 (by decide) rfl ?_
            refine jr_aload_n hg 1 rfl rfl dX8_lean_71 ?_
            refine jr_iload_n hg 2 rfl rfl dX8_lean_72 ?_
            refine jr_iload hg 6 rfl dX8_lean_73 ?_
            refine jr_cV2v hg lk_X8_222 (hI 35 (by decide)) rfl rfl (by decide) (by decide) (Nat.le_of_ble_eq_true rfl) dX8_lean_75 (c_X8_lookOf hI rall wall hl hp) ?_
            refine jr_istore hg dX8_lean_78 (by decide) rfl ?_
            refine jr_iload hg 1 rfl dX8_lean_80 ?_
            refine jr_if_lt (tgt := 171) hg dX8_lean_82 (by decide) (fun h82 => ?_) (fun h82 => ?_)
            · refine jr_iinc hg 7 rfl (nI (_ + 1)) (nI_1 _) dX8_lean_171 (by decide) rfl ?_
              refine jr_goto (tgt := 34) hg dX8_lean_174 (by decide) ?_
              have e := z_pak_0 (s := s) (l := l1) (p := p) (fun a b q => by
                simp only [z_mp, Bool.and_eq_true, bne_iff_ne, beq_iff_eq] at q
                have := z_an_f.mpr ((zmv_sgn (zfind_lt Wk l1 (s 5 p - 1))).mp h82); omega)
              rw [e.1, e.2] at ih
              exact jr_lv [3, 4, 5, 6, 7, 0] rfl ih
            · refine jr_iload hg 0 rfl dX8_lean_85 ?_
              refine jr_if_lt (tgt := 171) hg dX8_lean_87 (by decide) (fun h87 => ?_) (fun h87 => ?_)
              · refine jr_iinc hg 7 rfl (nI (_ + 1)) (nI_1 _) dX8_lean_171 (by decide) rfl ?_
                refine jr_goto (tgt := 34) hg dX8_lean_174 (by decide) ?_
                have e := z_pak_0 (s := s) (l := l1) (p := p) (fun a b q => by
                  simp only [z_mp, Bool.and_eq_true, bne_iff_ne, beq_iff_eq] at q
                  have := z_an_f.mpr ((zmv_sgn (zfind_lt Wk l1 p)).mp h87); omega)
                rw [e.1, e.2] at ih
                exact jr_lv [3, 4, 5, 6, 7, 0] rfl ih
              · have f1 : (zfind (z_at s l1 (s 5 p - 1)) (s 0 2)) ≠ 0 := fun q => h82 ((zmv_sgn (zfind_lt Wk _ _)).mpr q)
                have f2 : (zfind (z_at s l1 p) (s 0 2)) ≠ 0 := fun q => h87 ((zmv_sgn (zfind_lt Wk _ _)).mpr q)
                have v1 := z_an_v f1
                have v2 := z_an_v f2
                have b1 := zfind_le (z_at s l1 (s 5 p - 1)) (s 0 2)
                have b2 := zfind_le (z_at s l1 p) (s 0 2)
                have l1a := (Wk.2.1 ((zfind (z_at s l1 (s 5 p - 1)) (s 0 2)) - 1) (by omega)).2.2
                have l2a := (Wk.2.1 ((zfind (z_at s l1 p) (s 0 2)) - 1) (by omega)).2.2
                rw [show zmv (zfind (z_at s l1 (s 5 p - 1)) (s 0 2)) = nI ((zfind (z_at s l1 (s 5 p - 1)) (s 0 2)) - 1) by rw [zmv, if_neg f1], show zmv (zfind (z_at s l1 p) (s 0 2)) = nI ((zfind (z_at s l1 p) (s 0 2)) - 1) by rw [zmv, if_neg f2]]
                refine jr_aload_n hg 2 rfl rfl dX8_lean_90 ?_
                refine gf_X8_48 hg (hI 35 (by decide)) dX8_lean_91 ?_
                refine jr_iload hg 1 rfl dX8_lean_94 ?_
                refine jr_ialdN hg (n := 200) (by omega) (by decide) (hI 47 (by decide)) (ac_47 _ _) dX8_lean_96 ?_
                refine jr_top ((Rk.2 _ (by omega)).2.2) ?_
                refine jr_i2l hg (lN _) dX8_lean_97 (nI_l (by omega)) ?_
                refine jr_lconst hg (lN 1) dX8_lean_98 (by decide) ?_
                refine jr_ldc2 hg wm_8_0 dX8_lean_99 ?_
                refine jr_topl (show (2 : Int64) = lN 2 by decide) ?_
                refine jr_cS3v hg lk_X8_100 (by decide) (by decide) (Nat.le_of_ble_eq_true rfl) dX8_lean_102 (c_X8_inW hI (nI (s 9 ((zfind (z_at s l1 (s 5 p - 1)) (s 0 2)) - 1))) (lo := 1) (hi := 2) (nI_l (by omega)).symm (by decide) (by decide)) ?_
                refine jr_if_eqZ (tgt := 171) hg dX8_lean_105 (by decide) (fun h105 => ?_) (fun h105 => ?_)
                · refine jr_iinc hg 7 rfl (nI (_ + 1)) (nI_1 _) dX8_lean_171 (by decide) rfl ?_
                  refine jr_goto (tgt := 34) hg dX8_lean_174 (by decide) ?_
                  have e := z_pak_0 (s := s) (l := l1) (p := p) (fun a b q => by
                    simp only [z_mp, Bool.and_eq_true, bne_iff_ne, beq_iff_eq] at q
                    exact Decidable.byContradiction (fun r => (Bool.eq_false_iff.mp h105) (zwi_t (by omega) (by omega) (by decide))))
                  rw [e.1, e.2] at ih
                  exact jr_lv [3, 4, 5, 6, 7, 0] rfl ih
                · refine jr_aload_n hg 2 rfl rfl dX8_lean_108 ?_
                  refine gf_X8_48 hg (hI 35 (by decide)) dX8_lean_109 ?_
                  refine jr_iload hg 0 rfl dX8_lean_112 ?_
                  refine jr_ialdN hg (n := 200) (by omega) (by decide) (hI 47 (by decide)) (ac_47 _ _) dX8_lean_114 ?_
                  refine jr_top ((Rk.2 _ (by omega)).2.2) ?_
                  refine jr_i2l hg (lN _) dX8_lean_115 (nI_l (by omega)) ?_
                  refine jr_lconst hg (lN 1) dX8_lean_116 (by decide) ?_
                  refine jr_ldc2 hg wm_8_0 dX8_lean_117 ?_
                  refine jr_topl (show (2 : Int64) = lN 2 by decide) ?_
                  refine jr_cS3v hg lk_X8_100 (by decide) (by decide) (Nat.le_of_ble_eq_true rfl) dX8_lean_120 (c_X8_inW hI (nI (s 9 ((zfind (z_at s l1 p) (s 0 2)) - 1))) (lo := 1) (hi := 2) (nI_l (by omega)).symm (by decide) (by decide)) ?_
                  refine jr_if_eqZ (tgt := 171) hg dX8_lean_123 (by decide) (fun h123 => ?_) (fun h123 => ?_)
                  · refine jr_iinc hg 7 rfl (nI (_ + 1)) (nI_1 _) dX8_lean_171 (by decide) rfl ?_
                    refine jr_goto (tgt := 34) hg dX8_lean_174 (by decide) ?_
                    have e := z_pak_0 (s := s) (l := l1) (p := p) (fun a b q => by
                      simp only [z_mp, Bool.and_eq_true, bne_iff_ne, beq_iff_eq] at q
                      exact Decidable.byContradiction (fun r => (Bool.eq_false_iff.mp h123) (zwi_t (by omega) (by omega) (by decide))))
                    rw [e.1, e.2] at ih
                    exact jr_lv [3, 4, 5, 6, 7, 0] rfl ih
                  · refine jr_iinc hg 5 rfl (nI (_ + 1)) (nI_1 _) dX8_lean_126 (by decide) rfl ?_
                    refine jr_iload hg 6 rfl dX8_lean_129 ?_
                    refine jr_aload_n hg 3 rfl rfl dX8_lean_131 ?_
                    refine gf_X8_48 hg (hI 35 (by decide)) dX8_lean_132 ?_
                    refine jr_iload hg 2 rfl dX8_lean_135 ?_
                    refine jr_ialdN hg (n := 200) (by omega) (by decide) (hI 47 (by decide)) (ac_47 _ _) dX8_lean_137 ?_
                    refine jr_top ((Rk.2 _ (by omega)).2.2) ?_
                    refine jr_aload_n hg 3 rfl rfl dX8_lean_138 ?_
                    refine gf_X8_48 hg (hI 35 (by decide)) dX8_lean_139 ?_
                    refine jr_iload hg 1 rfl dX8_lean_142 ?_
                    refine jr_ialdN hg (n := 200) (by omega) (by decide) (hI 47 (by decide)) (ac_47 _ _) dX8_lean_144 ?_
                    refine jr_top ((Rk.2 _ (by omega)).2.2) ?_
                    refine jr_icmp_eqN (tgt := 152) hg dX8_lean_145 (by decide) (by omega) (by omega) (fun h145 => ?_) (fun h145 => ?_)
                    · refine jr_aload_n hg 3 rfl rfl dX8_lean_152 ?_
                      refine gf_X8_48 hg (hI 35 (by decide)) dX8_lean_153 ?_
                      refine jr_iload hg 2 rfl dX8_lean_156 ?_
                      refine jr_ialdN hg (n := 200) (by omega) (by decide) (hI 47 (by decide)) (ac_47 _ _) dX8_lean_158 ?_
                      refine jr_top ((Rk.2 _ (by omega)).2.2) ?_
                      refine jr_iconst hg (nI 1) dX8_lean_159 (by decide) ?_
                      refine jr_icmp_neN (tgt := 167) hg dX8_lean_160 (by decide) (by omega) (by omega) (fun h160 => ?_) (fun h160 => ?_)
                      · refine jr_iconst hg (-1) dX8_lean_167 (by decide) ?_
                        refine jr_iadd hg dX8_lean_168 ?_
                        refine jr_istore hg dX8_lean_169 (by decide) rfl ?_
                        refine jr_iinc hg 7 rfl (nI (_ + 1)) (nI_1 _) dX8_lean_171 (by decide) rfl ?_
                        refine jr_goto (tgt := 34) hg dX8_lean_174 (by decide) ?_
                        obtain ⟨x, x1, x2, ex⟩ := zwi_of (by decide) h105
                        obtain ⟨y, y1, y2, ey⟩ := zwi_of (by decide) h123
                        have ex := (nI_eq (by omega) (by omega)).mp ex
                        have ey := (nI_eq (by omega) (by omega)).mp ey
                        have e := z_pak_1 (s := s) (l := l1) (p := p) (by omega) hm0 (x := x) (y := y) (by omega) (by omega) x1 x2 y1 y2
                        rw [e.1, e.2] at ih
                        rw [if_pos (by omega), if_neg (by omega)] at ih
                        exact jr_lv [5, 6, 7, 2, 1, 0] rfl ih
                      · refine jr_iconst hg (nI 1) dX8_lean_163 (by decide) ?_
                        refine jr_goto (tgt := 168) hg dX8_lean_164 (by decide) ?_
                        refine jr_iadd hg dX8_lean_168 ?_
                        refine jr_istore hg dX8_lean_169 (by decide) rfl ?_
                        refine jr_iinc hg 7 rfl (nI (_ + 1)) (nI_1 _) dX8_lean_171 (by decide) rfl ?_
                        refine jr_goto (tgt := 34) hg dX8_lean_174 (by decide) ?_
                        obtain ⟨x, x1, x2, ex⟩ := zwi_of (by decide) h105
                        obtain ⟨y, y1, y2, ey⟩ := zwi_of (by decide) h123
                        have ex := (nI_eq (by omega) (by omega)).mp ex
                        have ey := (nI_eq (by omega) (by omega)).mp ey
                        have e := z_pak_1 (s := s) (l := l1) (p := p) (by omega) hm0 (x := x) (y := y) (by omega) (by omega) x1 x2 y1 y2
                        rw [e.1, e.2] at ih
                        rw [if_pos (by omega), if_pos (by omega)] at ih
                        exact jr_lv [5, 6, 7, 2, 1, 0] rfl ih
                    · refine jr_iconst hg (nI 0) dX8_lean_148 (by decide) ?_
                      refine jr_goto (tgt := 168) hg dX8_lean_149 (by decide) ?_
                      refine jr_iadd hg dX8_lean_168 ?_
                      refine jr_istore hg dX8_lean_169 (by decide) rfl ?_
                      refine jr_iinc hg 7 rfl (nI (_ + 1)) (nI_1 _) dX8_lean_171 (by decide) rfl ?_
                      refine jr_goto (tgt := 34) hg dX8_lean_174 (by decide) ?_
                      obtain ⟨x, x1, x2, ex⟩ := zwi_of (by decide) h105
                      obtain ⟨y, y1, y2, ey⟩ := zwi_of (by decide) h123
                      have ex := (nI_eq (by omega) (by omega)).mp ex
                      have ey := (nI_eq (by omega) (by omega)).mp ey
                      have e := z_pak_1 (s := s) (l := l1) (p := p) (by omega) hm0 (x := x) (y := y) (by omega) (by omega) x1 x2 y1 y2
                      rw [e.1, e.2] at ih
                      rw [if_neg (by omega)] at ih
                      exact jr_lv [5, 6, 7, 2, 1, 0] rfl ih
          · refine jr_iconst hg (-1) dX8_lean_53 (by decide) ?_
            refine jr_goto (tgt := 69) hg dX8_lean_54 (by decide) ?_
            refine jr_istore hg dX8_lean_69 (by decide) rfl ?_
            refine jr_aload_n hg 1 rfl rfl dX8_lean_71 ?_
            refine jr_iload_n hg 2 rfl rfl dX8_lean_72 ?_
            refine jr_iload hg 6 rfl dX8_lean_73 ?_
            refine jr_cV2v hg lk_X8_222 (hI 35 (by decide)) rfl rfl (by decide) (by decide) (Nat.le_of_ble_eq_true rfl) dX8_lean_75 (c_X8_lookOf hI rall wall hl hp) ?_
            refine jr_istore hg dX8_lean_78 (by decide) rfl ?_
            refine jr_iload hg 1 rfl dX8_lean_80 ?_
            refine jr_if_lt (tgt := 171) hg dX8_lean_82 (by decide) (fun h82 => ?_) (fun h => absurd zm1 h)
            refine jr_iinc hg 7 rfl (nI (_ + 1)) (nI_1 _) dX8_lean_171 (by decide) rfl ?_
            refine jr_goto (tgt := 34) hg dX8_lean_174 (by decide) ?_
            have e := z_pak_0 (s := s) (l := l1) (p := p) (fun a b q => by
              simp only [z_mp, Bool.and_eq_true, bne_iff_ne, beq_iff_eq] at q
              exact absurd ((zmv_sgn' (zW_mo Wp hp)).mpr q.1) h50)
            rw [e.1, e.2] at ih
            exact jr_lv [3, 4, 5, 6, 7, 0] rfl ih
      exact jr_lv [3, 4, 5, 2, 1, 0] rfl (by have q := lp34 0 (by omega); rw [show z_off s l1 0 = nI 0 from (by decide : nI 0 - nI 0 = nI 0)] at q; exact q)
    · refine jr_sipush hg (-1002) dX8_lean_22 (by decide) ?_
      exact jr_iret hg rfl dX8_lean_25 (zq_okR (by rw [zq_lean, if_pos (zbn h5), if_neg (by rw [h19]; simp)]) rall)
  · refine jr_sipush hg (-1001) dX8_lean_8 (by decide) ?_
    exact jr_iret hg rfl dX8_lean_11 (zq_okR (if_neg (zbf h5)) rall)

set_option maxRecDepth 100000 in
theorem c_X8_agreed {E : mm_E} (hI : mm_FR E) {M : mm_M} {s : zS} (hR : zR s M) (hW : zW s) (l m w : Int32) : mm_Cal E mX8_agreed [.ref (E.1 35), .int l, .int m, .int w] M (fun v M' => v = some (.int (zq_agreed s l m w).1) ∧ zR (zq_agreed s l m w).2 M') := by
  obtain ⟨Rp, Rl, Rk, Rw, Rt, Rd, Ro, Rq⟩ := hR
  obtain ⟨Wp, Wl, Wk, Ww, Wt, Wd, Wo, Wq⟩ := hW
  have hnp := Wp.1
  have hnl := Wl.1
  have hnk := Wk.1
  have rall : zR s M := ⟨Rp, Rl, Rk, Rw, Rt, Rd, Ro, Rq⟩
  have wall : zW s := ⟨Wp, Wl, Wk, Ww, Wt, Wd, Wo, Wq⟩
  refine jr_entry RX8 (by decide +kernel) (Nat.le_of_ble_eq_true rfl) (fun g hg => ?_)
  refine jr_lv (lv' := [(0, .ref (E.1 35)), (1, .int l), (2, .int m), (3, .int w)]) [0, 1, 2, 3] rfl ?_
  refine jr_aload_n hg 0 rfl rfl dX8_agreed_0 ?_
  refine jr_iload_n hg 1 rfl rfl dX8_agreed_1 ?_
  refine jr_cV1v hg lk_X8_217 (hI 35 (by decide)) rfl rfl (by decide) (by decide) (Nat.le_of_ble_eq_true rfl) dX8_agreed_2 (c_X8_noLooker hI rall wall l) ?_
  refine jr_if_neZ (tgt := 21) hg dX8_agreed_5 (by decide) (fun h5 => ?_) (fun h5 => ?_)
  · refine jr_sipush hg (-1001) dX8_agreed_21 (by decide) ?_
    exact jr_iret hg rfl dX8_agreed_24 (zq_okR (if_neg (by rw [zbt h5]; simp)) rall)
  · refine jr_aload_n hg 0 rfl rfl dX8_agreed_8 ?_
    refine jr_iload_n hg 2 rfl rfl dX8_agreed_9 ?_
    refine jr_cV1v hg lk_X8_217 (hI 35 (by decide)) rfl rfl (by decide) (by decide) (Nat.le_of_ble_eq_true rfl) dX8_agreed_10 (c_X8_noLooker hI rall wall m) ?_
    refine jr_if_neZ (tgt := 21) hg dX8_agreed_13 (by decide) (fun h13 => ?_) (fun h13 => ?_)
    · refine jr_sipush hg (-1001) dX8_agreed_21 (by decide) ?_
      exact jr_iret hg rfl dX8_agreed_24 (zq_okR (if_neg (by rw [zbn h5, zbt h13]; simp)) rall)
    · refine jr_iload_n hg 1 rfl rfl dX8_agreed_16 ?_
      refine jr_iload_n hg 2 rfl rfl dX8_agreed_17 ?_
      refine jr_icmp_ne (tgt := 25) hg dX8_agreed_18 (by decide) (fun h18 => ?_) (fun h18 => ?_)
      · refine jr_iload_n hg 3 rfl rfl dX8_agreed_25 ?_
        refine jr_i2l hg _ dX8_agreed_26 rfl ?_
        refine jr_lconst hg (lN 0) dX8_agreed_27 (by decide) ?_
        refine jr_ldc2 hg wm_8_0 dX8_agreed_28 ?_
        refine jr_topl (show (2 : Int64) = lN 2 by decide) ?_
        refine jr_cS3v hg lk_X8_100 (by decide) (by decide) (Nat.le_of_ble_eq_true rfl) dX8_agreed_31 (c_X8_in0 hI w rfl (by decide)) ?_
        refine jr_if_neZ (tgt := 41) hg dX8_agreed_34 (by decide) (fun h34 => ?_) (fun h34 => ?_)
        · have zh5 := zbn h5
          have zh13 := zbn h13
          have hq : (zin l (s 0 1) && (zin m (s 0 1) && decide (l ≠ m))) = true := by rw [zh5, zh13, decide_eq_true h18]; rfl
          obtain ⟨l1, hl, rfl⟩ := zin_of (by omega) zh5
          obtain ⟨m1, hm, rfl⟩ := zin_of (by omega) zh13
          obtain ⟨w1, hw, rfl⟩ := zin_of (by decide) h34
          refine jr_iconst hg (nI 0) dX8_agreed_41 (by decide) ?_
          refine jr_istore hg dX8_agreed_42 (by decide) rfl ?_
          refine jr_iconst hg (nI 0) dX8_agreed_44 (by decide) ?_
          refine jr_istore hg dX8_agreed_45 (by decide) rfl ?_
          refine jr_iconst hg (nI 0) dX8_agreed_47 (by decide) ?_
          refine jr_istore hg dX8_agreed_48 (by decide) rfl ?_
          have lp50 : ∀ p : Nat, p ≤ s 0 0 →  mm_J g E mX8_agreed (fun v M' => v = some (.int (zq_agreed s (nI l1) (nI m1) (nI w1)).1) ∧ zR (zq_agreed s (nI l1) (nI m1) (nI w1)).2 M') 50 [(0, .ref (E.1 35)), (1, .int (nI l1)), (2, .int (nI m1)), (3, .int (nI w1)), (4, .int (nI ((zcnt (z_al s l1 m1) p)))), (5, .int (nI ((zcnt (z_sh s l1 m1) p)))), (6, .int (nI p))] [] (M) := by
            refine jr_up (S := fun p =>  mm_J g E mX8_agreed (fun v M' => v = some (.int (zq_agreed s (nI l1) (nI m1) (nI w1)).1) ∧ zR (zq_agreed s (nI l1) (nI m1) (nI w1)).2 M') 50 [(0, .ref (E.1 35)), (1, .int (nI l1)), (2, .int (nI m1)), (3, .int (nI w1)), (4, .int (nI ((zcnt (z_al s l1 m1) p)))), (5, .int (nI ((zcnt (z_sh s l1 m1) p)))), (6, .int (nI p))] [] (M)) (n := s 0 0) ?_ ?_
            · show mm_J g E mX8_agreed (fun v M' => v = some (.int (zq_agreed s (nI l1) (nI m1) (nI w1)).1) ∧ zR (zq_agreed s (nI l1) (nI m1) (nI w1)).2 M') 50 [(0, .ref (E.1 35)), (1, .int (nI l1)), (2, .int (nI m1)), (3, .int (nI w1)), (4, .int (nI ((zcnt (z_al s l1 m1) (s 0 0))))), (5, .int (nI ((zcnt (z_sh s l1 m1) (s 0 0))))), (6, .int (nI (s 0 0)))] [] (M)
              have q1 := zcnt_le (z_sh s l1 m1) (s 0 0)
              have q2 := zcnt_le (z_al s l1 m1) (s 0 0)
              refine jr_iload hg 6 rfl dX8_agreed_50 ?_
              refine jr_aload_n hg 0 rfl rfl dX8_agreed_52 ?_
              refine gf_X8_154 hg (hI 35 (by decide)) dX8_agreed_53 ?_
              refine jr_top (Rp.1) ?_
              refine jr_icmp_geN (tgt := 126) hg dX8_agreed_56 (by decide) (by omega) (by omega) (fun h56 => ?_) (fun h => by omega)
              refine jr_iload_n hg 3 rfl rfl dX8_agreed_126 ?_
              refine jr_if_neN (tgt := 135) hg dX8_agreed_127 (by decide) (by omega) (fun h127 => ?_) (fun h127 => ?_)
              · refine jr_iload_n hg 3 rfl rfl dX8_agreed_135 ?_
                refine jr_iconst hg (nI 1) dX8_agreed_136 (by decide) ?_
                refine jr_icmp_neN (tgt := 145) hg dX8_agreed_137 (by decide) (by omega) (by omega) (fun h137 => ?_) (fun h137 => ?_)
                · refine jr_iload hg 5 rfl dX8_agreed_145 ?_
                  refine jr_iconst hg (nI 5) dX8_agreed_147 (by decide) ?_
                  refine jr_icmp_ltN (tgt := 162) hg dX8_agreed_148 (by decide) (by omega) (by omega) (fun h148 => ?_) (fun h148 => ?_)
                  · refine jr_iconst hg (nI 0) dX8_agreed_162 (by decide) ?_
                    refine jr_cS1v hg lk_X8_148 (by decide) (by decide) (Nat.le_of_ble_eq_true rfl) dX8_agreed_163 (c_X8_one hI (by decide)) ?_
                    exact jr_iret hg rfl dX8_agreed_166 (zq_okR (by rw [zq_agreed, if_pos hq, if_pos h34, zn_nI (j := l1) (by omega), zn_nI (j := m1) (by omega), zn_nI (j := w1) (by omega), show w1 = 2 by omega]; show (nI (decide (5 ≤ zcnt (z_sh s l1 m1) (s 0 0) ∧ zcnt (z_al s l1 m1) (s 0 0) = zcnt (z_sh s l1 m1) (s 0 0))).toNat, s) = _; rw [decide_eq_false (by omega)]; rfl) rall)
                  · refine jr_iload hg 4 rfl dX8_agreed_151 ?_
                    refine jr_iload hg 5 rfl dX8_agreed_153 ?_
                    refine jr_icmp_neN (tgt := 162) hg dX8_agreed_155 (by decide) (by omega) (by omega) (fun h155 => ?_) (fun h155 => ?_)
                    · refine jr_iconst hg (nI 0) dX8_agreed_162 (by decide) ?_
                      refine jr_cS1v hg lk_X8_148 (by decide) (by decide) (Nat.le_of_ble_eq_true rfl) dX8_agreed_163 (c_X8_one hI (by decide)) ?_
                      exact jr_iret hg rfl dX8_agreed_166 (zq_okR (by rw [zq_agreed, if_pos hq, if_pos h34, zn_nI (j := l1) (by omega), zn_nI (j := m1) (by omega), zn_nI (j := w1) (by omega), show w1 = 2 by omega]; show (nI (decide (5 ≤ zcnt (z_sh s l1 m1) (s 0 0) ∧ zcnt (z_al s l1 m1) (s 0 0) = zcnt (z_sh s l1 m1) (s 0 0))).toNat, s) = _; rw [decide_eq_false (by omega)]; rfl) rall)
                    · refine jr_iconst hg (nI 1) dX8_agreed_158 (by decide) ?_
                      refine jr_goto (tgt := 163) hg dX8_agreed_159 (by decide) ?_
                      refine jr_cS1v hg lk_X8_148 (by decide) (by decide) (Nat.le_of_ble_eq_true rfl) dX8_agreed_163 (c_X8_one hI (by decide)) ?_
                      exact jr_iret hg rfl dX8_agreed_166 (zq_okR (by rw [zq_agreed, if_pos hq, if_pos h34, zn_nI (j := l1) (by omega), zn_nI (j := m1) (by omega), zn_nI (j := w1) (by omega), show w1 = 2 by omega]; show (nI (decide (5 ≤ zcnt (z_sh s l1 m1) (s 0 0) ∧ zcnt (z_al s l1 m1) (s 0 0) = zcnt (z_sh s l1 m1) (s 0 0))).toNat, s) = _; rw [decide_eq_true (by omega)]; rfl) rall)
                · refine jr_iload hg 5 rfl dX8_agreed_140 ?_
                  refine jr_goto (tgt := 166) hg dX8_agreed_142 (by decide) ?_
                  exact jr_iret hg rfl dX8_agreed_166 (zq_okR (by rw [zq_agreed, if_pos hq, if_pos h34, zn_nI (j := l1) (by omega), zn_nI (j := m1) (by omega), zn_nI (j := w1) (by omega), show w1 = 1 by omega]; rfl) rall)
              · refine jr_iload hg 4 rfl dX8_agreed_130 ?_
                refine jr_goto (tgt := 166) hg dX8_agreed_132 (by decide) ?_
                exact jr_iret hg rfl dX8_agreed_166 (zq_okR (by rw [zq_agreed, if_pos hq, if_pos h34, zn_nI (j := l1) (by omega), zn_nI (j := m1) (by omega), zn_nI (j := w1) (by omega), show w1 = 0 by omega]; rfl) rall)
            · intro p hp ih 
              show mm_J g E mX8_agreed (fun v M' => v = some (.int (zq_agreed s (nI l1) (nI m1) (nI w1)).1) ∧ zR (zq_agreed s (nI l1) (nI m1) (nI w1)).2 M') 50 [(0, .ref (E.1 35)), (1, .int (nI l1)), (2, .int (nI m1)), (3, .int (nI w1)), (4, .int (nI ((zcnt (z_al s l1 m1) p)))), (5, .int (nI ((zcnt (z_sh s l1 m1) p)))), (6, .int (nI p))] [] (M)
              refine jr_iload hg 6 rfl dX8_agreed_50 ?_
              refine jr_aload_n hg 0 rfl rfl dX8_agreed_52 ?_
              refine gf_X8_154 hg (hI 35 (by decide)) dX8_agreed_53 ?_
              refine jr_top (Rp.1) ?_
              refine jr_icmp_geN (tgt := 126) hg dX8_agreed_56 (by decide) (by omega) (by omega) (fun h => by omega) (fun h56 => ?_)
              refine jr_aload_n hg 0 rfl rfl dX8_agreed_59 ?_
              refine jr_iload_n hg 1 rfl rfl dX8_agreed_60 ?_
              refine jr_iload hg 6 rfl dX8_agreed_61 ?_
              refine jr_cV2v hg lk_X8_222 (hI 35 (by decide)) rfl rfl (by decide) (by decide) (Nat.le_of_ble_eq_true rfl) dX8_agreed_63 (c_X8_lookOf hI rall wall hl hp) ?_
              refine jr_istore hg dX8_agreed_66 (by decide) rfl ?_
              refine jr_aload_n hg 1 rfl rfl dX8_agreed_68 ?_
              refine jr_iload_n hg 3 rfl rfl dX8_agreed_69 ?_
              refine jr_iload hg 7 rfl dX8_agreed_70 ?_
              refine jr_cV2v hg lk_X8_222 (hI 35 (by decide)) rfl rfl (by decide) (by decide) (Nat.le_of_ble_eq_true rfl) dX8_agreed_72 (c_X8_lookOf hI rall wall hm hp) ?_
              refine jr_istore hg dX8_agreed_75 (by decide) rfl ?_
              refine jr_iload hg 1 rfl dX8_agreed_77 ?_
              refine jr_if_lt (tgt := 120) hg dX8_agreed_79 (by decide) (fun h79 => ?_) (fun h79 => ?_)
              · refine jr_iinc hg 8 rfl (nI (_ + 1)) (nI_1 _) dX8_agreed_120 (by decide) rfl ?_
                refine jr_goto (tgt := 50) hg dX8_agreed_123 (by decide) ?_
                have z := z_an_f.mpr ((zmv_sgn (zfind_lt Wk l1 p)).mp h79)
                have e1 : zcnt (z_sh s l1 m1) (p + 1) = zcnt (z_sh s l1 m1) p + 0 := by
                  have q : (z_sh s l1 m1) p = false := by simp [z_sh, z]
                  rw [zcnt_s, q]; rfl
                have e2 : zcnt (z_al s l1 m1) (p + 1) = zcnt (z_al s l1 m1) p + 0 := by
                  have q : (z_al s l1 m1) p = false := by simp [z_al, z]
                  rw [zcnt_s, q]; rfl
                rw [e1, e2] at ih
                exact jr_lv [3, 4, 5, 6, 7, 8, 0] rfl ih
              · refine jr_iload hg 0 rfl dX8_agreed_82 ?_
                refine jr_if_lt (tgt := 120) hg dX8_agreed_84 (by decide) (fun h84 => ?_) (fun h84 => ?_)
                · refine jr_iinc hg 8 rfl (nI (_ + 1)) (nI_1 _) dX8_agreed_120 (by decide) rfl ?_
                  refine jr_goto (tgt := 50) hg dX8_agreed_123 (by decide) ?_
                  have z := z_an_f.mpr ((zmv_sgn (zfind_lt Wk m1 p)).mp h84)
                  have e1 : zcnt (z_sh s l1 m1) (p + 1) = zcnt (z_sh s l1 m1) p + 0 := by
                    have q : (z_sh s l1 m1) p = false := by simp [z_sh, z]
                    rw [zcnt_s, q]; rfl
                  have e2 : zcnt (z_al s l1 m1) (p + 1) = zcnt (z_al s l1 m1) p + 0 := by
                    have q : (z_al s l1 m1) p = false := by rw [z_al, z]; cases q0 : z_an s l1 p <;> simp
                    rw [zcnt_s, q]; rfl
                  rw [e1, e2] at ih
                  exact jr_lv [3, 4, 5, 6, 7, 8, 0] rfl ih
                · have f1 : (zfind (z_at s l1 p) (s 0 2)) ≠ 0 := fun q => h79 ((zmv_sgn (zfind_lt Wk _ _)).mpr q)
                  have f2 : (zfind (z_at s m1 p) (s 0 2)) ≠ 0 := fun q => h84 ((zmv_sgn (zfind_lt Wk _ _)).mpr q)
                  have v1 := z_an_v f1
                  have v2 := z_an_v f2
                  have b1 := zfind_le (z_at s l1 p) (s 0 2)
                  have b2 := zfind_le (z_at s m1 p) (s 0 2)
                  have l1a := (Wk.2.1 ((zfind (z_at s l1 p) (s 0 2)) - 1) (by omega)).2.2
                  have l2a := (Wk.2.1 ((zfind (z_at s m1 p) (s 0 2)) - 1) (by omega)).2.2
                  rw [show zmv (zfind (z_at s l1 p) (s 0 2)) = nI ((zfind (z_at s l1 p) (s 0 2)) - 1) by rw [zmv, if_neg f1], show zmv (zfind (z_at s m1 p) (s 0 2)) = nI ((zfind (z_at s m1 p) (s 0 2)) - 1) by rw [zmv, if_neg f2]]
                  refine jr_iinc hg 7 rfl (nI (_ + 1)) (nI_1 _) dX8_agreed_87 (by decide) rfl ?_
                  refine jr_iload hg 7 rfl dX8_agreed_90 ?_
                  refine jr_aload_n hg 3 rfl rfl dX8_agreed_92 ?_
                  refine gf_X8_48 hg (hI 35 (by decide)) dX8_agreed_93 ?_
                  refine jr_iload hg 2 rfl dX8_agreed_96 ?_
                  refine jr_ialdN hg (n := 200) (by omega) (by decide) (hI 47 (by decide)) (ac_47 _ _) dX8_agreed_98 ?_
                  refine jr_top ((Rk.2 _ (by omega)).2.2) ?_
                  refine jr_aload_n hg 3 rfl rfl dX8_agreed_99 ?_
                  refine gf_X8_48 hg (hI 35 (by decide)) dX8_agreed_100 ?_
                  refine jr_iload hg 1 rfl dX8_agreed_103 ?_
                  refine jr_ialdN hg (n := 200) (by omega) (by decide) (hI 47 (by decide)) (ac_47 _ _) dX8_agreed_105 ?_
                  refine jr_top ((Rk.2 _ (by omega)).2.2) ?_
                  refine jr_icmp_neN (tgt := 113) hg dX8_agreed_106 (by decide) (by omega) (by omega) (fun h106 => ?_) (fun h106 => ?_)
                  · refine jr_iconst hg (nI 0) dX8_agreed_113 (by decide) ?_
                    refine jr_cS1v hg lk_X8_148 (by decide) (by decide) (Nat.le_of_ble_eq_true rfl) dX8_agreed_114 (c_X8_one hI (by decide)) ?_
                    refine jr_iaddN hg dX8_agreed_117 ?_
                    refine jr_istore hg dX8_agreed_118 (by decide) rfl ?_
                    refine jr_iinc hg 8 rfl (nI (_ + 1)) (nI_1 _) dX8_agreed_120 (by decide) rfl ?_
                    refine jr_goto (tgt := 50) hg dX8_agreed_123 (by decide) ?_
                    have e1 : zcnt (z_sh s l1 m1) (p + 1) = zcnt (z_sh s l1 m1) p + 1 := by
                      have q : (z_sh s l1 m1) p = true := by rw [z_sh, v1, v2]; simp
                      rw [zcnt_s, q]; rfl
                    have e2 : zcnt (z_al s l1 m1) (p + 1) = zcnt (z_al s l1 m1) p + 0 := by
                      have q : (z_al s l1 m1) p = false := by rw [z_al, v1, v2]; simp [h106]
                      rw [zcnt_s, q]; rfl
                    rw [e1, e2] at ih
                    exact jr_lv [5, 6, 7, 8, 1, 2, 0] rfl ih
                  · refine jr_iconst hg (nI 1) dX8_agreed_109 (by decide) ?_
                    refine jr_goto (tgt := 114) hg dX8_agreed_110 (by decide) ?_
                    refine jr_cS1v hg lk_X8_148 (by decide) (by decide) (Nat.le_of_ble_eq_true rfl) dX8_agreed_114 (c_X8_one hI (by decide)) ?_
                    refine jr_iaddN hg dX8_agreed_117 ?_
                    refine jr_istore hg dX8_agreed_118 (by decide) rfl ?_
                    refine jr_iinc hg 8 rfl (nI (_ + 1)) (nI_1 _) dX8_agreed_120 (by decide) rfl ?_
                    refine jr_goto (tgt := 50) hg dX8_agreed_123 (by decide) ?_
                    have e1 : zcnt (z_sh s l1 m1) (p + 1) = zcnt (z_sh s l1 m1) p + 1 := by
                      have q : (z_sh s l1 m1) p = true := by rw [z_sh, v1, v2]; simp
                      rw [zcnt_s, q]; rfl
                    have e2 : zcnt (z_al s l1 m1) (p + 1) = zcnt (z_al s l1 m1) p + 1 := by
                      have q : (z_al s l1 m1) p = true := by rw [z_al, v1, v2]; simp [h106]
                      rw [zcnt_s, q]; rfl
                    rw [e1, e2] at ih
                    exact jr_lv [5, 6, 7, 8, 1, 2, 0] rfl ih
          exact jr_lv [3, 4, 5, 6, 2, 1, 0] rfl (lp50 0 (by omega))
        · refine jr_sipush hg (-1002) dX8_agreed_37 (by decide) ?_
          exact jr_iret hg rfl dX8_agreed_40 (zq_okR (by rw [zq_agreed, if_pos (by rw [zbn h5, zbn h13, decide_eq_true h18]; rfl), if_neg (by rw [h34]; simp)]) rall)
      · refine jr_sipush hg (-1001) dX8_agreed_21 (by decide) ?_
        exact jr_iret hg rfl dX8_agreed_24 (zq_okR (if_neg (by rw [zbn h5, zbn h13, decide_eq_false (fun q => q h18)]; simp)) rall)

set_option maxRecDepth 100000 in
theorem c_X8_isSure {E : mm_E} (hI : mm_FR E) {M : mm_M} {s : zS} (hR : zR s M) (hW : zW s) {k : Nat} (hk : k < s 0 2) : mm_Cal E mX8_isSure [.ref (E.1 35), .int (nI k)] M (ret1 (.int (nI (z_sk s k).toNat)) M) := by
  obtain ⟨Rp, Rl, Rk, Rw, Rt, Rd, Ro, Rq⟩ := hR
  obtain ⟨Wp, Wl, Wk, Ww, Wt, Wd, Wo, Wq⟩ := hW
  have hnp := Wp.1
  have hnl := Wl.1
  have hnk := Wk.1
  have rall : zR s M := ⟨Rp, Rl, Rk, Rw, Rt, Rd, Ro, Rq⟩
  have wall : zW s := ⟨Wp, Wl, Wk, Ww, Wt, Wd, Wo, Wq⟩
  have hlo := Wk.2.1 k hk
  have hso := Wl.2 _ hlo.1
  have w7 := zW_w100 Ww 7 (by decide)
  refine jr_entry RX8 (by decide +kernel) (Nat.le_of_ble_eq_true rfl) (fun g hg => ?_)
  refine jr_lv (lv' := [(0, .ref (E.1 35)), (1, .int (nI k))]) [0, 1] rfl ?_
  refine jr_aload_n hg 0 rfl rfl dX8_isSure_0 ?_
  refine gf_X8_39 hg (hI 35 (by decide)) dX8_isSure_1 ?_
  refine jr_aload_n hg 0 rfl rfl dX8_isSure_4 ?_
  refine gf_X8_42 hg (hI 35 (by decide)) dX8_isSure_5 ?_
  refine jr_iload_n hg 1 rfl rfl dX8_isSure_8 ?_
  refine jr_ialdN hg (n := 200) (by omega) (by decide) (hI 45 (by decide)) (ac_45 _ _) dX8_isSure_9 ?_
  refine jr_top ((Rk.2 _ (by omega)).1) ?_
  refine jr_ialdN hg (n := 8) (by omega) (by decide) (hI 44 (by decide)) (ac_44 _ _) dX8_isSure_10 ?_
  refine jr_top (Rl.2 _ (by omega)) ?_
  refine jr_iconst hg (nI 4) dX8_isSure_11 (by decide) ?_
  refine jr_icmp_neN (tgt := 62) hg dX8_isSure_12 (by decide) (by omega) (by omega) (fun h12 => ?_) (fun h12 => ?_)
  · refine jr_iconst hg (nI 0) dX8_isSure_62 (by decide) ?_
    exact jr_zret hg rfl (by first | exact Or.inl rfl | exact Or.inr rfl | exact z01 _) dX8_isSure_63 (⟨by rw [z_sk, decide_eq_false (by omega)]; rfl, rfl⟩)
  · refine jr_aload_n hg 0 rfl rfl dX8_isSure_15 ?_
    refine gf_X8_48 hg (hI 35 (by decide)) dX8_isSure_16 ?_
    refine jr_iload_n hg 1 rfl rfl dX8_isSure_19 ?_
    refine jr_ialdN hg (n := 200) (by omega) (by decide) (hI 47 (by decide)) (ac_47 _ _) dX8_isSure_20 ?_
    refine jr_top ((Rk.2 _ (by omega)).2.2) ?_
    refine jr_iconst hg (nI 3) dX8_isSure_21 (by decide) ?_
    refine jr_icmp_geN (tgt := 62) hg dX8_isSure_22 (by decide) (by omega) (by omega) (fun h22 => ?_) (fun h22 => ?_)
    · refine jr_iconst hg (nI 0) dX8_isSure_62 (by decide) ?_
      exact jr_zret hg rfl (by first | exact Or.inl rfl | exact Or.inr rfl | exact z01 _) dX8_isSure_63 (⟨by rw [z_sk, decide_eq_false (by omega)]; rfl, rfl⟩)
    · have ho := Wo.1 (3 * s 8 k + s 9 k) (by omega)
      refine jr_aload_n hg 0 rfl rfl dX8_isSure_25 ?_
      refine gf_X8_51 hg (hI 35 (by decide)) dX8_isSure_26 ?_
      refine jr_iconst hg (nI 3) dX8_isSure_29 (by decide) ?_
      refine jr_aload_n hg 0 rfl rfl dX8_isSure_30 ?_
      refine gf_X8_45 hg (hI 35 (by decide)) dX8_isSure_31 ?_
      refine jr_iload_n hg 1 rfl rfl dX8_isSure_34 ?_
      refine jr_ialdN hg (n := 200) (by omega) (by decide) (hI 46 (by decide)) (ac_46 _ _) dX8_isSure_35 ?_
      refine jr_top ((Rk.2 _ (by omega)).2.1) ?_
      refine jr_imulN hg dX8_isSure_36 ?_
      refine jr_aload_n hg 0 rfl rfl dX8_isSure_37 ?_
      refine gf_X8_48 hg (hI 35 (by decide)) dX8_isSure_38 ?_
      refine jr_iload_n hg 1 rfl rfl dX8_isSure_41 ?_
      refine jr_ialdN hg (n := 200) (by omega) (by decide) (hI 47 (by decide)) (ac_47 _ _) dX8_isSure_42 ?_
      refine jr_top ((Rk.2 _ (by omega)).2.2) ?_
      refine jr_iaddN hg dX8_isSure_43 ?_
      refine jr_ialdN hg (n := 72) (by omega) (by decide) (hI 48 (by decide)) (ac_48 _ _) dX8_isSure_44 ?_
      refine jr_top (Ro.1 _ (by omega)) ?_
      refine jr_bipush hg (nI 10) dX8_isSure_45 (by decide) ?_
      refine jr_aload_n hg 0 rfl rfl dX8_isSure_47 ?_
      refine gf_X8_7 hg (hI 35 (by decide)) dX8_isSure_48 ?_
      refine jr_bipush hg (nI 7) dX8_isSure_51 (by decide) ?_
      refine jr_ialdN hg (n := 8) (by omega) (by decide) (hI 36 (by decide)) (ac_36 _ _) dX8_isSure_53 ?_
      refine jr_top (Rw _ (by omega)) ?_
      refine jr_imulN hg dX8_isSure_54 ?_
      refine jr_icmp_ltN (tgt := 62) hg dX8_isSure_55 (by decide) (by omega) (by omega) (fun h55 => ?_) (fun h55 => ?_)
      · refine jr_iconst hg (nI 0) dX8_isSure_62 (by decide) ?_
        exact jr_zret hg rfl (by first | exact Or.inl rfl | exact Or.inr rfl | exact z01 _) dX8_isSure_63 (⟨by rw [z_sk, z_su, decide_eq_true ⟨h12, h22⟩, decide_eq_false (by omega)]; rfl, rfl⟩)
      · refine jr_iconst hg (nI 1) dX8_isSure_58 (by decide) ?_
        refine jr_goto (tgt := 63) hg dX8_isSure_59 (by decide) ?_
        exact jr_zret hg rfl (by first | exact Or.inl rfl | exact Or.inr rfl | exact z01 _) dX8_isSure_63 (⟨by rw [z_sk, z_su, decide_eq_true ⟨h12, h22⟩, decide_eq_true (by omega)]; rfl, rfl⟩)

set_option maxRecDepth 100000 in
theorem c_X8_given {E : mm_E} (hI : mm_FR E) {M : mm_M} {s : zS} (hR : zR s M) (hW : zW s) (x : Int32) : mm_Cal E mX8_given [.ref (E.1 35), .int x] M (fun v M' => v = some (.int (zq_given s x).1) ∧ zR (zq_given s x).2 M') := by
  obtain ⟨Rp, Rl, Rk, Rw, Rt, Rd, Ro, Rq⟩ := hR
  obtain ⟨Wp, Wl, Wk, Ww, Wt, Wd, Wo, Wq⟩ := hW
  have hnp := Wp.1
  have hnl := Wl.1
  have hnk := Wk.1
  have rall : zR s M := ⟨Rp, Rl, Rk, Rw, Rt, Rd, Ro, Rq⟩
  have wall : zW s := ⟨Wp, Wl, Wk, Ww, Wt, Wd, Wo, Wq⟩
  refine jr_entry RX8 (by decide +kernel) (Nat.le_of_ble_eq_true rfl) (fun g hg => ?_)
  refine jr_lv (lv' := [(0, .ref (E.1 35)), (1, .int x)]) [0, 1] rfl ?_
  refine jr_iload_n hg 1 rfl rfl dX8_given_0 ?_
  refine jr_i2l hg _ dX8_given_1 rfl ?_
  refine jr_lconst hg (lN 0) dX8_given_2 (by decide) ?_
  refine jr_ldc2 hg wm_8_0 dX8_given_3 ?_
  refine jr_topl (show (2 : Int64) = lN 2 by decide) ?_
  refine jr_cS3v hg lk_X8_100 (by decide) (by decide) (Nat.le_of_ble_eq_true rfl) dX8_given_6 (c_X8_in0 hI x rfl (by decide)) ?_
  refine jr_if_neZ (tgt := 16) hg dX8_given_9 (by decide) (fun h9 => ?_) (fun h9 => ?_)
  · obtain ⟨x1, hx, rfl⟩ := zin_of (by decide) h9
    refine jr_iconst hg (nI 0) dX8_given_16 (by decide) ?_
    refine jr_istore_n hg dX8_given_17 rfl (by decide) rfl ?_
    refine jr_iconst hg (nI 0) dX8_given_18 (by decide) ?_
    refine jr_istore_n hg dX8_given_19 rfl (by decide) rfl ?_
    refine jr_iconst hg (nI 0) dX8_given_20 (by decide) ?_
    refine jr_istore hg dX8_given_21 (by decide) rfl ?_
    refine jr_iconst hg (nI 0) dX8_given_23 (by decide) ?_
    refine jr_istore hg dX8_given_24 (by decide) rfl ?_
    have lp26 : ∀ p : Nat, p ≤ s 0 0 →  mm_J g E mX8_given (fun v M' => v = some (.int (zq_given s (nI x1)).1) ∧ zR (zq_given s (nI x1)).2 M') 26 [(0, .ref (E.1 35)), (1, .int (nI x1)), (2, .int (nI ((zcnt (fun y => zex (z_isk s y) (s 0 2)) p)))), (3, .int (nI ((zsum (fun y => if zex (z_isk s y) (s 0 2) then zcnt (z_nm s y) (s 0 2) else 0) p)))), (4, .int (nI ((zcnt (fun y => zex (z_bdk s y) (s 0 2)) p)))), (5, .int (nI p))] [] (M) := by
      refine jr_up (S := fun p =>  mm_J g E mX8_given (fun v M' => v = some (.int (zq_given s (nI x1)).1) ∧ zR (zq_given s (nI x1)).2 M') 26 [(0, .ref (E.1 35)), (1, .int (nI x1)), (2, .int (nI ((zcnt (fun y => zex (z_isk s y) (s 0 2)) p)))), (3, .int (nI ((zsum (fun y => if zex (z_isk s y) (s 0 2) then zcnt (z_nm s y) (s 0 2) else 0) p)))), (4, .int (nI ((zcnt (fun y => zex (z_bdk s y) (s 0 2)) p)))), (5, .int (nI p))] [] (M)) (n := s 0 0) ?_ ?_
      · show mm_J g E mX8_given (fun v M' => v = some (.int (zq_given s (nI x1)).1) ∧ zR (zq_given s (nI x1)).2 M') 26 [(0, .ref (E.1 35)), (1, .int (nI x1)), (2, .int (nI ((zcnt (fun y => zex (z_isk s y) (s 0 2)) (s 0 0))))), (3, .int (nI ((zsum (fun y => if zex (z_isk s y) (s 0 2) then zcnt (z_nm s y) (s 0 2) else 0) (s 0 0))))), (4, .int (nI ((zcnt (fun y => zex (z_bdk s y) (s 0 2)) (s 0 0))))), (5, .int (nI (s 0 0)))] [] (M)
        refine jr_iload hg 5 rfl dX8_given_26 ?_
        refine jr_aload_n hg 0 rfl rfl dX8_given_28 ?_
        refine gf_X8_154 hg (hI 35 (by decide)) dX8_given_29 ?_
        refine jr_top (Rp.1) ?_
        refine jr_icmp_geN (tgt := 200) hg dX8_given_32 (by decide) (by omega) (by omega) (fun h32 => ?_) (fun h => by omega)
        refine jr_iload_n hg 1 rfl rfl dX8_given_200 ?_
        refine jr_if_neN (tgt := 208) hg dX8_given_201 (by decide) (by omega) (fun h201 => ?_) (fun h201 => ?_)
        · refine jr_iload_n hg 1 rfl rfl dX8_given_208 ?_
          refine jr_iconst hg (nI 1) dX8_given_209 (by decide) ?_
          refine jr_icmp_neN (tgt := 217) hg dX8_given_210 (by decide) (by omega) (by omega) (fun h210 => ?_) (fun h210 => ?_)
          · refine jr_iload hg 4 rfl dX8_given_217 ?_
            exact jr_iret hg rfl dX8_given_219 (zq_okR (by rw [zq_given, if_pos h9, zn_nI (j := x1) (by omega), show x1 = 2 by omega]; show (nI (zcnt (z_wg s) (s 0 0)), s) = _; rw [← zcnt_congr (P := fun p => zex (z_bdk s p) (s 0 2)) (Q := z_wg s) (fun p _ => z_wg_ex Wk)]) rall)
          · refine jr_iload_n hg 3 rfl rfl dX8_given_213 ?_
            refine jr_goto (tgt := 219) hg dX8_given_214 (by decide) ?_
            exact jr_iret hg rfl dX8_given_219 (zq_okR (by rw [zq_given, if_pos h9, zn_nI (j := x1) (by omega), show x1 = 1 by omega, z_given, z_go2_p Wk]; simp only [z_gv_ex Wk]) rall)
        · refine jr_iload_n hg 2 rfl rfl dX8_given_204 ?_
          refine jr_goto (tgt := 219) hg dX8_given_205 (by decide) ?_
          exact jr_iret hg rfl dX8_given_219 (zq_okR (by rw [zq_given, if_pos h9, zn_nI (j := x1) (by omega), show x1 = 0 by omega, z_given, ← zcnt_congr (P := fun p => zex (z_isk s p) (s 0 2)) (Q := z_gv s) (fun p _ => z_gv_ex Wk)]) rall)
      · intro p hp ih 
        show mm_J g E mX8_given (fun v M' => v = some (.int (zq_given s (nI x1)).1) ∧ zR (zq_given s (nI x1)).2 M') 26 [(0, .ref (E.1 35)), (1, .int (nI x1)), (2, .int (nI ((zcnt (fun y => zex (z_isk s y) (s 0 2)) p)))), (3, .int (nI ((zsum (fun y => if zex (z_isk s y) (s 0 2) then zcnt (z_nm s y) (s 0 2) else 0) p)))), (4, .int (nI ((zcnt (fun y => zex (z_bdk s y) (s 0 2)) p)))), (5, .int (nI p))] [] (M)
        have hpk := (Wp.2 p hp).1
        refine jr_iload hg 5 rfl dX8_given_26 ?_
        refine jr_aload_n hg 0 rfl rfl dX8_given_28 ?_
        refine gf_X8_154 hg (hI 35 (by decide)) dX8_given_29 ?_
        refine jr_top (Rp.1) ?_
        refine jr_icmp_geN (tgt := 200) hg dX8_given_32 (by decide) (by omega) (by omega) (fun h => by omega) (fun h32 => ?_)
        refine jr_iconst hg (nI 0) dX8_given_35 (by decide) ?_
        refine jr_istore hg dX8_given_36 (by decide) rfl ?_
        refine jr_iconst hg (nI 0) dX8_given_38 (by decide) ?_
        refine jr_istore hg dX8_given_39 (by decide) rfl ?_
        refine jr_iconst hg (nI 0) dX8_given_41 (by decide) ?_
        refine jr_istore hg dX8_given_42 (by decide) rfl ?_
        refine jr_iconst hg (nI 0) dX8_given_44 (by decide) ?_
        refine jr_istore hg dX8_given_45 (by decide) rfl ?_
        have lp47 : ∀ k : Nat, k ≤ s 0 2 →  mm_J g E mX8_given (fun v M' => v = some (.int (zq_given s (nI x1)).1) ∧ zR (zq_given s (nI x1)).2 M') 47 [(0, .ref (E.1 35)), (1, .int (nI x1)), (2, .int (nI ((zcnt (fun y => zex (z_isk s y) (s 0 2)) p)))), (3, .int (nI ((zsum (fun y => if zex (z_isk s y) (s 0 2) then zcnt (z_nm s y) (s 0 2) else 0) p)))), (4, .int (nI ((zcnt (fun y => zex (z_bdk s y) (s 0 2)) p)))), (5, .int (nI p)), (6, .int (nI ((zex (z_isk s p) k).toNat))), (7, .int (nI ((zex (z_bdk s p) k).toNat))), (8, .int (nI ((zcnt (z_nm s p) k)))), (9, .int (nI k))] [] (M) := by
          refine jr_up (S := fun k =>  mm_J g E mX8_given (fun v M' => v = some (.int (zq_given s (nI x1)).1) ∧ zR (zq_given s (nI x1)).2 M') 47 [(0, .ref (E.1 35)), (1, .int (nI x1)), (2, .int (nI ((zcnt (fun y => zex (z_isk s y) (s 0 2)) p)))), (3, .int (nI ((zsum (fun y => if zex (z_isk s y) (s 0 2) then zcnt (z_nm s y) (s 0 2) else 0) p)))), (4, .int (nI ((zcnt (fun y => zex (z_bdk s y) (s 0 2)) p)))), (5, .int (nI p)), (6, .int (nI ((zex (z_isk s p) k).toNat))), (7, .int (nI ((zex (z_bdk s p) k).toNat))), (8, .int (nI ((zcnt (z_nm s p) k)))), (9, .int (nI k))] [] (M)) (n := s 0 2) ?_ ?_
          · show mm_J g E mX8_given (fun v M' => v = some (.int (zq_given s (nI x1)).1) ∧ zR (zq_given s (nI x1)).2 M') 47 [(0, .ref (E.1 35)), (1, .int (nI x1)), (2, .int (nI ((zcnt (fun y => zex (z_isk s y) (s 0 2)) p)))), (3, .int (nI ((zsum (fun y => if zex (z_isk s y) (s 0 2) then zcnt (z_nm s y) (s 0 2) else 0) p)))), (4, .int (nI ((zcnt (fun y => zex (z_bdk s y) (s 0 2)) p)))), (5, .int (nI p)), (6, .int (nI ((zex (z_isk s p) (s 0 2)).toNat))), (7, .int (nI ((zex (z_bdk s p) (s 0 2)).toNat))), (8, .int (nI ((zcnt (z_nm s p) (s 0 2))))), (9, .int (nI (s 0 2)))] [] (M)
            refine jr_iload hg 9 rfl dX8_given_47 ?_
            refine jr_aload_n hg 0 rfl rfl dX8_given_49 ?_
            refine gf_X8_174 hg (hI 35 (by decide)) dX8_given_50 ?_
            refine jr_top (Rk.1) ?_
            refine jr_icmp_geN (tgt := 162) hg dX8_given_53 (by decide) (by omega) (by omega) (fun h53 => ?_) (fun h => by omega)
            refine jr_iload_n hg 2 rfl rfl dX8_given_162 ?_
            refine jr_iload hg 6 rfl dX8_given_163 ?_
            refine jr_cS1v hg lk_X8_148 (by decide) (by decide) (Nat.le_of_ble_eq_true rfl) dX8_given_165 (c_X8_one hI (Bool.toNat_le _)) ?_
            refine jr_iaddN hg dX8_given_168 ?_
            refine jr_istore_n hg dX8_given_169 rfl (by decide) rfl ?_
            refine jr_iload_n hg 3 rfl rfl dX8_given_170 ?_
            refine jr_iload hg 6 rfl dX8_given_171 ?_
            refine jr_if_eqZ (tgt := 181) hg dX8_given_173 (by decide) (fun h173 => ?_) (fun h173 => ?_)
            · refine jr_iconst hg (nI 0) dX8_given_181 (by decide) ?_
              refine jr_iaddN hg dX8_given_182 ?_
              refine jr_istore_n hg dX8_given_183 rfl (by decide) rfl ?_
              refine jr_iload hg 4 rfl dX8_given_184 ?_
              refine jr_iload hg 7 rfl dX8_given_186 ?_
              refine jr_cS1v hg lk_X8_148 (by decide) (by decide) (Nat.le_of_ble_eq_true rfl) dX8_given_188 (c_X8_one hI (Bool.toNat_le _)) ?_
              refine jr_iaddN hg dX8_given_191 ?_
              refine jr_istore hg dX8_given_192 (by decide) rfl ?_
              refine jr_iinc hg 5 rfl (nI (_ + 1)) (nI_1 _) dX8_given_194 (by decide) rfl ?_
              refine jr_goto (tgt := 26) hg dX8_given_197 (by decide) ?_
              have e3 : zsum (fun p => if zex (z_isk s p) (s 0 2) then zcnt (z_nm s p) (s 0 2) else 0) (p + 1) = zsum (fun p => if zex (z_isk s p) (s 0 2) then zcnt (z_nm s p) (s 0 2) else 0) p + 0 := by rw [zsum_s, if_neg (by rw [h173]; decide)]
              rw [e3] at ih
              exact jr_lv [4, 5, 3, 2, 1, 0] rfl ih
            · refine jr_iload hg 8 rfl dX8_given_176 ?_
              refine jr_goto (tgt := 182) hg dX8_given_178 (by decide) ?_
              refine jr_iaddN hg dX8_given_182 ?_
              refine jr_istore_n hg dX8_given_183 rfl (by decide) rfl ?_
              refine jr_iload hg 4 rfl dX8_given_184 ?_
              refine jr_iload hg 7 rfl dX8_given_186 ?_
              refine jr_cS1v hg lk_X8_148 (by decide) (by decide) (Nat.le_of_ble_eq_true rfl) dX8_given_188 (c_X8_one hI (Bool.toNat_le _)) ?_
              refine jr_iaddN hg dX8_given_191 ?_
              refine jr_istore hg dX8_given_192 (by decide) rfl ?_
              refine jr_iinc hg 5 rfl (nI (_ + 1)) (nI_1 _) dX8_given_194 (by decide) rfl ?_
              refine jr_goto (tgt := 26) hg dX8_given_197 (by decide) ?_
              have e3 : zsum (fun p => if zex (z_isk s p) (s 0 2) then zcnt (z_nm s p) (s 0 2) else 0) (p + 1) = zsum (fun p => if zex (z_isk s p) (s 0 2) then zcnt (z_nm s p) (s 0 2) else 0) p + zcnt (z_nm s p) (s 0 2) := by rw [zsum_s, if_pos h173]
              rw [e3] at ih
              exact jr_lv [4, 5, 3, 2, 1, 0] rfl ih
          · intro k hk ih2 
            show mm_J g E mX8_given (fun v M' => v = some (.int (zq_given s (nI x1)).1) ∧ zR (zq_given s (nI x1)).2 M') 47 [(0, .ref (E.1 35)), (1, .int (nI x1)), (2, .int (nI ((zcnt (fun y => zex (z_isk s y) (s 0 2)) p)))), (3, .int (nI ((zsum (fun y => if zex (z_isk s y) (s 0 2) then zcnt (z_nm s y) (s 0 2) else 0) p)))), (4, .int (nI ((zcnt (fun y => zex (z_bdk s y) (s 0 2)) p)))), (5, .int (nI p)), (6, .int (nI ((zex (z_isk s p) k).toNat))), (7, .int (nI ((zex (z_bdk s p) k).toNat))), (8, .int (nI ((zcnt (z_nm s p) k)))), (9, .int (nI k))] [] (M)
            have hlo := Wk.2.1 k hk
            have hso := Wl.2 _ hlo.1
            refine jr_iload hg 9 rfl dX8_given_47 ?_
            refine jr_aload_n hg 0 rfl rfl dX8_given_49 ?_
            refine gf_X8_174 hg (hI 35 (by decide)) dX8_given_50 ?_
            refine jr_top (Rk.1) ?_
            refine jr_icmp_geN (tgt := 162) hg dX8_given_53 (by decide) (by omega) (by omega) (fun h => by omega) (fun h53 => ?_)
            refine jr_aload_n hg 0 rfl rfl dX8_given_56 ?_
            refine gf_X8_45 hg (hI 35 (by decide)) dX8_given_57 ?_
            refine jr_iload hg 9 rfl dX8_given_60 ?_
            refine jr_ialdN hg (n := 200) (by omega) (by decide) (hI 46 (by decide)) (ac_46 _ _) dX8_given_62 ?_
            refine jr_top ((Rk.2 _ (by omega)).2.1) ?_
            refine jr_iload hg 5 rfl dX8_given_63 ?_
            refine jr_icmp_neN (tgt := 156) hg dX8_given_65 (by decide) (by omega) (by omega) (fun h65 => ?_) (fun h65 => ?_)
            · refine jr_iinc hg 9 rfl (nI (_ + 1)) (nI_1 _) dX8_given_156 (by decide) rfl ?_
              refine jr_goto (tgt := 47) hg dX8_given_159 (by decide) ?_
              have e1 : zex (z_isk s p) (k + 1) = zex (z_isk s p) k := by rw [zex, z_isk, show (s 8 k == p) = false by simp [h65]]; simp
              have e2 : zex (z_bdk s p) (k + 1) = zex (z_bdk s p) k := by rw [zex, z_bdk, show (s 8 k == p) = false by simp [h65]]; simp
              have e3 : zcnt (z_nm s p) (k + 1) = zcnt (z_nm s p) k + 0 := by rw [zcnt_s, z_nm, show (s 8 k == p) = false by simp [h65]]; rfl
              rw [e1, e2, e3] at ih2
              exact jr_lv [1, 2, 3, 4, 5, 6, 7, 8, 9, 0] rfl ih2
            · refine jr_iload hg 6 rfl dX8_given_68 ?_
              refine jr_if_neZ (tgt := 82) hg dX8_given_70 (by decide) (fun h70 => ?_) (fun h70 => ?_)
              · refine jr_iconst hg (nI 1) dX8_given_82 (by decide) ?_
                refine jr_goto (tgt := 87) hg dX8_given_83 (by decide) ?_
                refine jr_istore hg dX8_given_87 (by decide) rfl ?_
                refine jr_iload hg 7 rfl dX8_given_89 ?_
                refine jr_if_neZ (tgt := 120) hg dX8_given_91 (by decide) (fun h91 => ?_) (fun h91 => ?_)
                · refine jr_iconst hg (nI 1) dX8_given_120 (by decide) ?_
                  refine jr_goto (tgt := 125) hg dX8_given_121 (by decide) ?_
                  refine jr_istore hg dX8_given_125 (by decide) rfl ?_
                  refine jr_iload hg 8 rfl dX8_given_127 ?_
                  refine jr_aload_n hg 2 rfl rfl dX8_given_129 ?_
                  refine gf_X8_39 hg (hI 35 (by decide)) dX8_given_130 ?_
                  refine jr_aload_n hg 2 rfl rfl dX8_given_133 ?_
                  refine gf_X8_42 hg (hI 35 (by decide)) dX8_given_134 ?_
                  refine jr_iload hg 9 rfl dX8_given_137 ?_
                  refine jr_ialdN hg (n := 200) (by omega) (by decide) (hI 45 (by decide)) (ac_45 _ _) dX8_given_139 ?_
                  refine jr_top ((Rk.2 _ (by omega)).1) ?_
                  refine jr_ialdN hg (n := 8) (by omega) (by decide) (hI 44 (by decide)) (ac_44 _ _) dX8_given_140 ?_
                  refine jr_top (Rl.2 _ (by omega)) ?_
                  refine jr_iconst hg (nI 4) dX8_given_141 (by decide) ?_
                  refine jr_icmp_eqN (tgt := 149) hg dX8_given_142 (by decide) (by omega) (by omega) (fun h142 => ?_) (fun h142 => ?_)
                  · refine jr_iconst hg (nI 0) dX8_given_149 (by decide) ?_
                    refine jr_cS1v hg lk_X8_148 (by decide) (by decide) (Nat.le_of_ble_eq_true rfl) dX8_given_150 (c_X8_one hI (by decide)) ?_
                    refine jr_iaddN hg dX8_given_153 ?_
                    refine jr_istore hg dX8_given_154 (by decide) rfl ?_
                    refine jr_iinc hg 9 rfl (nI (_ + 1)) (nI_1 _) dX8_given_156 (by decide) rfl ?_
                    refine jr_goto (tgt := 47) hg dX8_given_159 (by decide) ?_
                    have e1 : zex (z_isk s p) (k + 1) = true := by rw [zex, h70]; rfl
                    have e2 : zex (z_bdk s p) (k + 1) = true := by rw [zex, h91]; rfl
                    have e3 : zcnt (z_nm s p) (k + 1) = zcnt (z_nm s p) k + 0 := by rw [zcnt_s, z_nm, show (s 8 k == p) = true by simp [h65], show (s 6 (s 7 k) != 4) = false by simp [h142]]; rfl
                    rw [e1, e2, e3] at ih2
                    exact jr_lv [4, 5, 6, 7, 8, 9, 3, 2, 1, 0] rfl ih2
                  · refine jr_iconst hg (nI 1) dX8_given_145 (by decide) ?_
                    refine jr_goto (tgt := 150) hg dX8_given_146 (by decide) ?_
                    refine jr_cS1v hg lk_X8_148 (by decide) (by decide) (Nat.le_of_ble_eq_true rfl) dX8_given_150 (c_X8_one hI (by decide)) ?_
                    refine jr_iaddN hg dX8_given_153 ?_
                    refine jr_istore hg dX8_given_154 (by decide) rfl ?_
                    refine jr_iinc hg 9 rfl (nI (_ + 1)) (nI_1 _) dX8_given_156 (by decide) rfl ?_
                    refine jr_goto (tgt := 47) hg dX8_given_159 (by decide) ?_
                    have e1 : zex (z_isk s p) (k + 1) = true := by rw [zex, h70]; rfl
                    have e2 : zex (z_bdk s p) (k + 1) = true := by rw [zex, h91]; rfl
                    have e3 : zcnt (z_nm s p) (k + 1) = zcnt (z_nm s p) k + 1 := by rw [zcnt_s, z_nm, show (s 8 k == p) = true by simp [h65], show (s 6 (s 7 k) != 4) = true by simp [h142]]; rfl
                    rw [e1, e2, e3] at ih2
                    exact jr_lv [4, 5, 6, 7, 8, 9, 3, 2, 1, 0] rfl ih2
                · refine jr_aload_n hg 1 rfl rfl dX8_given_94 ?_
                  refine jr_iload hg 9 rfl dX8_given_95 ?_
                  refine jr_cV1v hg lk_X8_271 (hI 35 (by decide)) rfl rfl (by decide) (by decide) (Nat.le_of_ble_eq_true rfl) dX8_given_97 (c_X8_isSure hI rall wall hk) ?_
                  refine jr_if_eqZ (tgt := 124) hg dX8_given_100 (by decide) (fun h100 => ?_) (fun h100 => ?_)
                  · refine jr_iconst hg (nI 0) dX8_given_124 (by decide) ?_
                    refine jr_istore hg dX8_given_125 (by decide) rfl ?_
                    refine jr_iload hg 8 rfl dX8_given_127 ?_
                    refine jr_aload_n hg 2 rfl rfl dX8_given_129 ?_
                    refine gf_X8_39 hg (hI 35 (by decide)) dX8_given_130 ?_
                    refine jr_aload_n hg 2 rfl rfl dX8_given_133 ?_
                    refine gf_X8_42 hg (hI 35 (by decide)) dX8_given_134 ?_
                    refine jr_iload hg 9 rfl dX8_given_137 ?_
                    refine jr_ialdN hg (n := 200) (by omega) (by decide) (hI 45 (by decide)) (ac_45 _ _) dX8_given_139 ?_
                    refine jr_top ((Rk.2 _ (by omega)).1) ?_
                    refine jr_ialdN hg (n := 8) (by omega) (by decide) (hI 44 (by decide)) (ac_44 _ _) dX8_given_140 ?_
                    refine jr_top (Rl.2 _ (by omega)) ?_
                    refine jr_iconst hg (nI 4) dX8_given_141 (by decide) ?_
                    refine jr_icmp_eqN (tgt := 149) hg dX8_given_142 (by decide) (by omega) (by omega) (fun h142 => ?_) (fun h142 => ?_)
                    · refine jr_iconst hg (nI 0) dX8_given_149 (by decide) ?_
                      refine jr_cS1v hg lk_X8_148 (by decide) (by decide) (Nat.le_of_ble_eq_true rfl) dX8_given_150 (c_X8_one hI (by decide)) ?_
                      refine jr_iaddN hg dX8_given_153 ?_
                      refine jr_istore hg dX8_given_154 (by decide) rfl ?_
                      refine jr_iinc hg 9 rfl (nI (_ + 1)) (nI_1 _) dX8_given_156 (by decide) rfl ?_
                      refine jr_goto (tgt := 47) hg dX8_given_159 (by decide) ?_
                      have e1 : zex (z_isk s p) (k + 1) = true := by rw [zex, h70]; rfl
                      have e2 : zex (z_bdk s p) (k + 1) = false := by rw [zex, h91, z_bdk, show (s 8 k == p) = true by simp [h65], h100]; rfl
                      have e3 : zcnt (z_nm s p) (k + 1) = zcnt (z_nm s p) k + 0 := by rw [zcnt_s, z_nm, show (s 8 k == p) = true by simp [h65], show (s 6 (s 7 k) != 4) = false by simp [h142]]; rfl
                      rw [e1, e2, e3] at ih2
                      exact jr_lv [4, 5, 6, 7, 8, 9, 3, 2, 1, 0] rfl ih2
                    · refine jr_iconst hg (nI 1) dX8_given_145 (by decide) ?_
                      refine jr_goto (tgt := 150) hg dX8_given_146 (by decide) ?_
                      refine jr_cS1v hg lk_X8_148 (by decide) (by decide) (Nat.le_of_ble_eq_true rfl) dX8_given_150 (c_X8_one hI (by decide)) ?_
                      refine jr_iaddN hg dX8_given_153 ?_
                      refine jr_istore hg dX8_given_154 (by decide) rfl ?_
                      refine jr_iinc hg 9 rfl (nI (_ + 1)) (nI_1 _) dX8_given_156 (by decide) rfl ?_
                      refine jr_goto (tgt := 47) hg dX8_given_159 (by decide) ?_
                      have e1 : zex (z_isk s p) (k + 1) = true := by rw [zex, h70]; rfl
                      have e2 : zex (z_bdk s p) (k + 1) = false := by rw [zex, h91, z_bdk, show (s 8 k == p) = true by simp [h65], h100]; rfl
                      have e3 : zcnt (z_nm s p) (k + 1) = zcnt (z_nm s p) k + 1 := by rw [zcnt_s, z_nm, show (s 8 k == p) = true by simp [h65], show (s 6 (s 7 k) != 4) = true by simp [h142]]; rfl
                      rw [e1, e2, e3] at ih2
                      exact jr_lv [4, 5, 6, 7, 8, 9, 3, 2, 1, 0] rfl ih2
                  · refine jr_aload_n hg 1 rfl rfl dX8_given_103 ?_
                    refine gf_X8_48 hg (hI 35 (by decide)) dX8_given_104 ?_
                    refine jr_iload hg 9 rfl dX8_given_107 ?_
                    refine jr_ialdN hg (n := 200) (by omega) (by decide) (hI 47 (by decide)) (ac_47 _ _) dX8_given_109 ?_
                    refine jr_top ((Rk.2 _ (by omega)).2.2) ?_
                    refine jr_aload_n hg 1 rfl rfl dX8_given_110 ?_
                    refine gf_X8_23 hg (hI 35 (by decide)) dX8_given_111 ?_
                    refine jr_iload hg 6 rfl dX8_given_114 ?_
                    refine jr_ialdN hg (n := 24) (by omega) (by decide) (hI 39 (by decide)) (ac_39 _ _) dX8_given_116 ?_
                    refine jr_top ((Rp.2 _ (by omega)).1) ?_
                    refine jr_icmp_eqN (tgt := 124) hg dX8_given_117 (by decide) (by omega) (by omega) (fun h117 => ?_) (fun h117 => ?_)
                    · refine jr_iconst hg (nI 0) dX8_given_124 (by decide) ?_
                      refine jr_istore hg dX8_given_125 (by decide) rfl ?_
                      refine jr_iload hg 8 rfl dX8_given_127 ?_
                      refine jr_aload_n hg 2 rfl rfl dX8_given_129 ?_
                      refine gf_X8_39 hg (hI 35 (by decide)) dX8_given_130 ?_
                      refine jr_aload_n hg 2 rfl rfl dX8_given_133 ?_
                      refine gf_X8_42 hg (hI 35 (by decide)) dX8_given_134 ?_
                      refine jr_iload hg 9 rfl dX8_given_137 ?_
                      refine jr_ialdN hg (n := 200) (by omega) (by decide) (hI 45 (by decide)) (ac_45 _ _) dX8_given_139 ?_
                      refine jr_top ((Rk.2 _ (by omega)).1) ?_
                      refine jr_ialdN hg (n := 8) (by omega) (by decide) (hI 44 (by decide)) (ac_44 _ _) dX8_given_140 ?_
                      refine jr_top (Rl.2 _ (by omega)) ?_
                      refine jr_iconst hg (nI 4) dX8_given_141 (by decide) ?_
                      refine jr_icmp_eqN (tgt := 149) hg dX8_given_142 (by decide) (by omega) (by omega) (fun h142 => ?_) (fun h142 => ?_)
                      · refine jr_iconst hg (nI 0) dX8_given_149 (by decide) ?_
                        refine jr_cS1v hg lk_X8_148 (by decide) (by decide) (Nat.le_of_ble_eq_true rfl) dX8_given_150 (c_X8_one hI (by decide)) ?_
                        refine jr_iaddN hg dX8_given_153 ?_
                        refine jr_istore hg dX8_given_154 (by decide) rfl ?_
                        refine jr_iinc hg 9 rfl (nI (_ + 1)) (nI_1 _) dX8_given_156 (by decide) rfl ?_
                        refine jr_goto (tgt := 47) hg dX8_given_159 (by decide) ?_
                        have e1 : zex (z_isk s p) (k + 1) = true := by rw [zex, h70]; rfl
                        have e2 : zex (z_bdk s p) (k + 1) = false := by rw [zex, h91, z_bdk, show (s 8 k == p) = true by simp [h65], h100, show (s 9 k != s 1 p) = false by simp [h117]]; rfl
                        have e3 : zcnt (z_nm s p) (k + 1) = zcnt (z_nm s p) k + 0 := by rw [zcnt_s, z_nm, show (s 8 k == p) = true by simp [h65], show (s 6 (s 7 k) != 4) = false by simp [h142]]; rfl
                        rw [e1, e2, e3] at ih2
                        exact jr_lv [4, 5, 6, 7, 8, 9, 3, 2, 1, 0] rfl ih2
                      · refine jr_iconst hg (nI 1) dX8_given_145 (by decide) ?_
                        refine jr_goto (tgt := 150) hg dX8_given_146 (by decide) ?_
                        refine jr_cS1v hg lk_X8_148 (by decide) (by decide) (Nat.le_of_ble_eq_true rfl) dX8_given_150 (c_X8_one hI (by decide)) ?_
                        refine jr_iaddN hg dX8_given_153 ?_
                        refine jr_istore hg dX8_given_154 (by decide) rfl ?_
                        refine jr_iinc hg 9 rfl (nI (_ + 1)) (nI_1 _) dX8_given_156 (by decide) rfl ?_
                        refine jr_goto (tgt := 47) hg dX8_given_159 (by decide) ?_
                        have e1 : zex (z_isk s p) (k + 1) = true := by rw [zex, h70]; rfl
                        have e2 : zex (z_bdk s p) (k + 1) = false := by rw [zex, h91, z_bdk, show (s 8 k == p) = true by simp [h65], h100, show (s 9 k != s 1 p) = false by simp [h117]]; rfl
                        have e3 : zcnt (z_nm s p) (k + 1) = zcnt (z_nm s p) k + 1 := by rw [zcnt_s, z_nm, show (s 8 k == p) = true by simp [h65], show (s 6 (s 7 k) != 4) = true by simp [h142]]; rfl
                        rw [e1, e2, e3] at ih2
                        exact jr_lv [4, 5, 6, 7, 8, 9, 3, 2, 1, 0] rfl ih2
                    · refine jr_iconst hg (nI 1) dX8_given_120 (by decide) ?_
                      refine jr_goto (tgt := 125) hg dX8_given_121 (by decide) ?_
                      refine jr_istore hg dX8_given_125 (by decide) rfl ?_
                      refine jr_iload hg 8 rfl dX8_given_127 ?_
                      refine jr_aload_n hg 2 rfl rfl dX8_given_129 ?_
                      refine gf_X8_39 hg (hI 35 (by decide)) dX8_given_130 ?_
                      refine jr_aload_n hg 2 rfl rfl dX8_given_133 ?_
                      refine gf_X8_42 hg (hI 35 (by decide)) dX8_given_134 ?_
                      refine jr_iload hg 9 rfl dX8_given_137 ?_
                      refine jr_ialdN hg (n := 200) (by omega) (by decide) (hI 45 (by decide)) (ac_45 _ _) dX8_given_139 ?_
                      refine jr_top ((Rk.2 _ (by omega)).1) ?_
                      refine jr_ialdN hg (n := 8) (by omega) (by decide) (hI 44 (by decide)) (ac_44 _ _) dX8_given_140 ?_
                      refine jr_top (Rl.2 _ (by omega)) ?_
                      refine jr_iconst hg (nI 4) dX8_given_141 (by decide) ?_
                      refine jr_icmp_eqN (tgt := 149) hg dX8_given_142 (by decide) (by omega) (by omega) (fun h142 => ?_) (fun h142 => ?_)
                      · refine jr_iconst hg (nI 0) dX8_given_149 (by decide) ?_
                        refine jr_cS1v hg lk_X8_148 (by decide) (by decide) (Nat.le_of_ble_eq_true rfl) dX8_given_150 (c_X8_one hI (by decide)) ?_
                        refine jr_iaddN hg dX8_given_153 ?_
                        refine jr_istore hg dX8_given_154 (by decide) rfl ?_
                        refine jr_iinc hg 9 rfl (nI (_ + 1)) (nI_1 _) dX8_given_156 (by decide) rfl ?_
                        refine jr_goto (tgt := 47) hg dX8_given_159 (by decide) ?_
                        have e1 : zex (z_isk s p) (k + 1) = true := by rw [zex, h70]; rfl
                        have e2 : zex (z_bdk s p) (k + 1) = true := by rw [zex, h91, z_bdk, show (s 8 k == p) = true by simp [h65], h100, show (s 9 k != s 1 p) = true by simp [h117]]; rfl
                        have e3 : zcnt (z_nm s p) (k + 1) = zcnt (z_nm s p) k + 0 := by rw [zcnt_s, z_nm, show (s 8 k == p) = true by simp [h65], show (s 6 (s 7 k) != 4) = false by simp [h142]]; rfl
                        rw [e1, e2, e3] at ih2
                        exact jr_lv [4, 5, 6, 7, 8, 9, 3, 2, 1, 0] rfl ih2
                      · refine jr_iconst hg (nI 1) dX8_given_145 (by decide) ?_
                        refine jr_goto (tgt := 150) hg dX8_given_146 (by decide) ?_
                        refine jr_cS1v hg lk_X8_148 (by decide) (by decide) (Nat.le_of_ble_eq_true rfl) dX8_given_150 (c_X8_one hI (by decide)) ?_
                        refine jr_iaddN hg dX8_given_153 ?_
                        refine jr_istore hg dX8_given_154 (by decide) rfl ?_
                        refine jr_iinc hg 9 rfl (nI (_ + 1)) (nI_1 _) dX8_given_156 (by decide) rfl ?_
                        refine jr_goto (tgt := 47) hg dX8_given_159 (by decide) ?_
                        have e1 : zex (z_isk s p) (k + 1) = true := by rw [zex, h70]; rfl
                        have e2 : zex (z_bdk s p) (k + 1) = true := by rw [zex, h91, z_bdk, show (s 8 k == p) = true by simp [h65], h100, show (s 9 k != s 1 p) = true by simp [h117]]; rfl
                        have e3 : zcnt (z_nm s p) (k + 1) = zcnt (z_nm s p) k + 1 := by rw [zcnt_s, z_nm, show (s 8 k == p) = true by simp [h65], show (s 6 (s 7 k) != 4) = true by simp [h142]]; rfl
                        rw [e1, e2, e3] at ih2
                        exact jr_lv [4, 5, 6, 7, 8, 9, 3, 2, 1, 0] rfl ih2
              · refine jr_aload_n hg 0 rfl rfl dX8_given_73 ?_
                refine jr_iload hg 9 rfl dX8_given_74 ?_
                refine jr_cV1v hg lk_X8_271 (hI 35 (by decide)) rfl rfl (by decide) (by decide) (Nat.le_of_ble_eq_true rfl) dX8_given_76 (c_X8_isSure hI rall wall hk) ?_
                refine jr_if_eqZ (tgt := 86) hg dX8_given_79 (by decide) (fun h79 => ?_) (fun h79 => ?_)
                · refine jr_iconst hg (nI 0) dX8_given_86 (by decide) ?_
                  refine jr_istore hg dX8_given_87 (by decide) rfl ?_
                  refine jr_iload hg 7 rfl dX8_given_89 ?_
                  refine jr_if_neZ (tgt := 120) hg dX8_given_91 (by decide) (fun h91 => ?_) (fun h91 => ?_)
                  · refine jr_iconst hg (nI 1) dX8_given_120 (by decide) ?_
                    refine jr_goto (tgt := 125) hg dX8_given_121 (by decide) ?_
                    refine jr_istore hg dX8_given_125 (by decide) rfl ?_
                    refine jr_iload hg 8 rfl dX8_given_127 ?_
                    refine jr_aload_n hg 2 rfl rfl dX8_given_129 ?_
                    refine gf_X8_39 hg (hI 35 (by decide)) dX8_given_130 ?_
                    refine jr_aload_n hg 2 rfl rfl dX8_given_133 ?_
                    refine gf_X8_42 hg (hI 35 (by decide)) dX8_given_134 ?_
                    refine jr_iload hg 9 rfl dX8_given_137 ?_
                    refine jr_ialdN hg (n := 200) (by omega) (by decide) (hI 45 (by decide)) (ac_45 _ _) dX8_given_139 ?_
                    refine jr_top ((Rk.2 _ (by omega)).1) ?_
                    refine jr_ialdN hg (n := 8) (by omega) (by decide) (hI 44 (by decide)) (ac_44 _ _) dX8_given_140 ?_
                    refine jr_top (Rl.2 _ (by omega)) ?_
                    refine jr_iconst hg (nI 4) dX8_given_141 (by decide) ?_
                    refine jr_icmp_eqN (tgt := 149) hg dX8_given_142 (by decide) (by omega) (by omega) (fun h142 => ?_) (fun h142 => ?_)
                    · refine jr_iconst hg (nI 0) dX8_given_149 (by decide) ?_
                      refine jr_cS1v hg lk_X8_148 (by decide) (by decide) (Nat.le_of_ble_eq_true rfl) dX8_given_150 (c_X8_one hI (by decide)) ?_
                      refine jr_iaddN hg dX8_given_153 ?_
                      refine jr_istore hg dX8_given_154 (by decide) rfl ?_
                      refine jr_iinc hg 9 rfl (nI (_ + 1)) (nI_1 _) dX8_given_156 (by decide) rfl ?_
                      refine jr_goto (tgt := 47) hg dX8_given_159 (by decide) ?_
                      have e1 : zex (z_isk s p) (k + 1) = false := by rw [zex, h70, z_isk, show (s 8 k == p) = true by simp [h65], h79]; rfl
                      have e2 : zex (z_bdk s p) (k + 1) = true := by rw [zex, h91]; rfl
                      have e3 : zcnt (z_nm s p) (k + 1) = zcnt (z_nm s p) k + 0 := by rw [zcnt_s, z_nm, show (s 8 k == p) = true by simp [h65], show (s 6 (s 7 k) != 4) = false by simp [h142]]; rfl
                      rw [e1, e2, e3] at ih2
                      exact jr_lv [4, 5, 6, 7, 8, 9, 3, 2, 1, 0] rfl ih2
                    · refine jr_iconst hg (nI 1) dX8_given_145 (by decide) ?_
                      refine jr_goto (tgt := 150) hg dX8_given_146 (by decide) ?_
                      refine jr_cS1v hg lk_X8_148 (by decide) (by decide) (Nat.le_of_ble_eq_true rfl) dX8_given_150 (c_X8_one hI (by decide)) ?_
                      refine jr_iaddN hg dX8_given_153 ?_
                      refine jr_istore hg dX8_given_154 (by decide) rfl ?_
                      refine jr_iinc hg 9 rfl (nI (_ + 1)) (nI_1 _) dX8_given_156 (by decide) rfl ?_
                      refine jr_goto (tgt := 47) hg dX8_given_159 (by decide) ?_
                      have e1 : zex (z_isk s p) (k + 1) = false := by rw [zex, h70, z_isk, show (s 8 k == p) = true by simp [h65], h79]; rfl
                      have e2 : zex (z_bdk s p) (k + 1) = true := by rw [zex, h91]; rfl
                      have e3 : zcnt (z_nm s p) (k + 1) = zcnt (z_nm s p) k + 1 := by rw [zcnt_s, z_nm, show (s 8 k == p) = true by simp [h65], show (s 6 (s 7 k) != 4) = true by simp [h142]]; rfl
                      rw [e1, e2, e3] at ih2
                      exact jr_lv [4, 5, 6, 7, 8, 9, 3, 2, 1, 0] rfl ih2
                  · refine jr_aload_n hg 1 rfl rfl dX8_given_94 ?_
                    refine jr_iload hg 9 rfl dX8_given_95 ?_
                    refine jr_cV1v hg lk_X8_271 (hI 35 (by decide)) rfl rfl (by decide) (by decide) (Nat.le_of_ble_eq_true rfl) dX8_given_97 (c_X8_isSure hI rall wall hk) ?_
                    refine jr_if_eqZ (tgt := 124) hg dX8_given_100 (by decide) (fun h100 => ?_) (fun h100 => ?_)
                    · refine jr_iconst hg (nI 0) dX8_given_124 (by decide) ?_
                      refine jr_istore hg dX8_given_125 (by decide) rfl ?_
                      refine jr_iload hg 8 rfl dX8_given_127 ?_
                      refine jr_aload_n hg 2 rfl rfl dX8_given_129 ?_
                      refine gf_X8_39 hg (hI 35 (by decide)) dX8_given_130 ?_
                      refine jr_aload_n hg 2 rfl rfl dX8_given_133 ?_
                      refine gf_X8_42 hg (hI 35 (by decide)) dX8_given_134 ?_
                      refine jr_iload hg 9 rfl dX8_given_137 ?_
                      refine jr_ialdN hg (n := 200) (by omega) (by decide) (hI 45 (by decide)) (ac_45 _ _) dX8_given_139 ?_
                      refine jr_top ((Rk.2 _ (by omega)).1) ?_
                      refine jr_ialdN hg (n := 8) (by omega) (by decide) (hI 44 (by decide)) (ac_44 _ _) dX8_given_140 ?_
                      refine jr_top (Rl.2 _ (by omega)) ?_
                      refine jr_iconst hg (nI 4) dX8_given_141 (by decide) ?_
                      refine jr_icmp_eqN (tgt := 149) hg dX8_given_142 (by decide) (by omega) (by omega) (fun h142 => ?_) (fun h142 => ?_)
                      · refine jr_iconst hg (nI 0) dX8_given_149 (by decide) ?_
                        refine jr_cS1v hg lk_X8_148 (by decide) (by decide) (Nat.le_of_ble_eq_true rfl) dX8_given_150 (c_X8_one hI (by decide)) ?_
                        refine jr_iaddN hg dX8_given_153 ?_
                        refine jr_istore hg dX8_given_154 (by decide) rfl ?_
                        refine jr_iinc hg 9 rfl (nI (_ + 1)) (nI_1 _) dX8_given_156 (by decide) rfl ?_
                        refine jr_goto (tgt := 47) hg dX8_given_159 (by decide) ?_
                        have e1 : zex (z_isk s p) (k + 1) = false := by rw [zex, h70, z_isk, show (s 8 k == p) = true by simp [h65], h79]; rfl
                        have e2 : zex (z_bdk s p) (k + 1) = false := by rw [zex, h91, z_bdk, show (s 8 k == p) = true by simp [h65], h100]; rfl
                        have e3 : zcnt (z_nm s p) (k + 1) = zcnt (z_nm s p) k + 0 := by rw [zcnt_s, z_nm, show (s 8 k == p) = true by simp [h65], show (s 6 (s 7 k) != 4) = false by simp [h142]]; rfl
                        rw [e1, e2, e3] at ih2
                        exact jr_lv [4, 5, 6, 7, 8, 9, 3, 2, 1, 0] rfl ih2
                      · refine jr_iconst hg (nI 1) dX8_given_145 (by decide) ?_
                        refine jr_goto (tgt := 150) hg dX8_given_146 (by decide) ?_
                        refine jr_cS1v hg lk_X8_148 (by decide) (by decide) (Nat.le_of_ble_eq_true rfl) dX8_given_150 (c_X8_one hI (by decide)) ?_
                        refine jr_iaddN hg dX8_given_153 ?_
                        refine jr_istore hg dX8_given_154 (by decide) rfl ?_
                        refine jr_iinc hg 9 rfl (nI (_ + 1)) (nI_1 _) dX8_given_156 (by decide) rfl ?_
                        refine jr_goto (tgt := 47) hg dX8_given_159 (by decide) ?_
                        have e1 : zex (z_isk s p) (k + 1) = false := by rw [zex, h70, z_isk, show (s 8 k == p) = true by simp [h65], h79]; rfl
                        have e2 : zex (z_bdk s p) (k + 1) = false := by rw [zex, h91, z_bdk, show (s 8 k == p) = true by simp [h65], h100]; rfl
                        have e3 : zcnt (z_nm s p) (k + 1) = zcnt (z_nm s p) k + 1 := by rw [zcnt_s, z_nm, show (s 8 k == p) = true by simp [h65], show (s 6 (s 7 k) != 4) = true by simp [h142]]; rfl
                        rw [e1, e2, e3] at ih2
                        exact jr_lv [4, 5, 6, 7, 8, 9, 3, 2, 1, 0] rfl ih2
                    · refine jr_aload_n hg 1 rfl rfl dX8_given_103 ?_
                      refine gf_X8_48 hg (hI 35 (by decide)) dX8_given_104 ?_
                      refine jr_iload hg 9 rfl dX8_given_107 ?_
                      refine jr_ialdN hg (n := 200) (by omega) (by decide) (hI 47 (by decide)) (ac_47 _ _) dX8_given_109 ?_
                      refine jr_top ((Rk.2 _ (by omega)).2.2) ?_
                      refine jr_aload_n hg 1 rfl rfl dX8_given_110 ?_
                      refine gf_X8_23 hg (hI 35 (by decide)) dX8_given_111 ?_
                      refine jr_iload hg 6 rfl dX8_given_114 ?_
                      refine jr_ialdN hg (n := 24) (by omega) (by decide) (hI 39 (by decide)) (ac_39 _ _) dX8_given_116 ?_
                      refine jr_top ((Rp.2 _ (by omega)).1) ?_
                      refine jr_icmp_eqN (tgt := 124) hg dX8_given_117 (by decide) (by omega) (by omega) (fun h117 => ?_) (fun h117 => ?_)
                      · refine jr_iconst hg (nI 0) dX8_given_124 (by decide) ?_
                        refine jr_istore hg dX8_given_125 (by decide) rfl ?_
                        refine jr_iload hg 8 rfl dX8_given_127 ?_
                        refine jr_aload_n hg 2 rfl rfl dX8_given_129 ?_
                        refine gf_X8_39 hg (hI 35 (by decide)) dX8_given_130 ?_
                        refine jr_aload_n hg 2 rfl rfl dX8_given_133 ?_
                        refine gf_X8_42 hg (hI 35 (by decide)) dX8_given_134 ?_
                        refine jr_iload hg 9 rfl dX8_given_137 ?_
                        refine jr_ialdN hg (n := 200) (by omega) (by decide) (hI 45 (by decide)) (ac_45 _ _) dX8_given_139 ?_
                        refine jr_top ((Rk.2 _ (by omega)).1) ?_
                        refine jr_ialdN hg (n := 8) (by omega) (by decide) (hI 44 (by decide)) (ac_44 _ _) dX8_given_140 ?_
                        refine jr_top (Rl.2 _ (by omega)) ?_
                        refine jr_iconst hg (nI 4) dX8_given_141 (by decide) ?_
                        refine jr_icmp_eqN (tgt := 149) hg dX8_given_142 (by decide) (by omega) (by omega) (fun h142 => ?_) (fun h142 => ?_)
                        · refine jr_iconst hg (nI 0) dX8_given_149 (by decide) ?_
                          refine jr_cS1v hg lk_X8_148 (by decide) (by decide) (Nat.le_of_ble_eq_true rfl) dX8_given_150 (c_X8_one hI (by decide)) ?_
                          refine jr_iaddN hg dX8_given_153 ?_
                          refine jr_istore hg dX8_given_154 (by decide) rfl ?_
                          refine jr_iinc hg 9 rfl (nI (_ + 1)) (nI_1 _) dX8_given_156 (by decide) rfl ?_
                          refine jr_goto (tgt := 47) hg dX8_given_159 (by decide) ?_
                          have e1 : zex (z_isk s p) (k + 1) = false := by rw [zex, h70, z_isk, show (s 8 k == p) = true by simp [h65], h79]; rfl
                          have e2 : zex (z_bdk s p) (k + 1) = false := by rw [zex, h91, z_bdk, show (s 8 k == p) = true by simp [h65], h100, show (s 9 k != s 1 p) = false by simp [h117]]; rfl
                          have e3 : zcnt (z_nm s p) (k + 1) = zcnt (z_nm s p) k + 0 := by rw [zcnt_s, z_nm, show (s 8 k == p) = true by simp [h65], show (s 6 (s 7 k) != 4) = false by simp [h142]]; rfl
                          rw [e1, e2, e3] at ih2
                          exact jr_lv [4, 5, 6, 7, 8, 9, 3, 2, 1, 0] rfl ih2
                        · refine jr_iconst hg (nI 1) dX8_given_145 (by decide) ?_
                          refine jr_goto (tgt := 150) hg dX8_given_146 (by decide) ?_
                          refine jr_cS1v hg lk_X8_148 (by decide) (by decide) (Nat.le_of_ble_eq_true rfl) dX8_given_150 (c_X8_one hI (by decide)) ?_
                          refine jr_iaddN hg dX8_given_153 ?_
                          refine jr_istore hg dX8_given_154 (by decide) rfl ?_
                          refine jr_iinc hg 9 rfl (nI (_ + 1)) (nI_1 _) dX8_given_156 (by decide) rfl ?_
                          refine jr_goto (tgt := 47) hg dX8_given_159 (by decide) ?_
                          have e1 : zex (z_isk s p) (k + 1) = false := by rw [zex, h70, z_isk, show (s 8 k == p) = true by simp [h65], h79]; rfl
                          have e2 : zex (z_bdk s p) (k + 1) = false := by rw [zex, h91, z_bdk, show (s 8 k == p) = true by simp [h65], h100, show (s 9 k != s 1 p) = false by simp [h117]]; rfl
                          have e3 : zcnt (z_nm s p) (k + 1) = zcnt (z_nm s p) k + 1 := by rw [zcnt_s, z_nm, show (s 8 k == p) = true by simp [h65], show (s 6 (s 7 k) != 4) = true by simp [h142]]; rfl
                          rw [e1, e2, e3] at ih2
                          exact jr_lv [4, 5, 6, 7, 8, 9, 3, 2, 1, 0] rfl ih2
                      · refine jr_iconst hg (nI 1) dX8_given_120 (by decide) ?_
                        refine jr_goto (tgt := 125) hg dX8_given_121 (by decide) ?_
                        refine jr_istore hg dX8_given_125 (by decide) rfl ?_
                        refine jr_iload hg 8 rfl dX8_given_127 ?_
                        refine jr_aload_n hg 2 rfl rfl dX8_given_129 ?_
                        refine gf_X8_39 hg (hI 35 (by decide)) dX8_given_130 ?_
                        refine jr_aload_n hg 2 rfl rfl dX8_given_133 ?_
                        refine gf_X8_42 hg (hI 35 (by decide)) dX8_given_134 ?_
                        refine jr_iload hg 9 rfl dX8_given_137 ?_
                        refine jr_ialdN hg (n := 200) (by omega) (by decide) (hI 45 (by decide)) (ac_45 _ _) dX8_given_139 ?_
                        refine jr_top ((Rk.2 _ (by omega)).1) ?_
                        refine jr_ialdN hg (n := 8) (by omega) (by decide) (hI 44 (by decide)) (ac_44 _ _) dX8_given_140 ?_
                        refine jr_top (Rl.2 _ (by omega)) ?_
                        refine jr_iconst hg (nI 4) dX8_given_141 (by decide) ?_
                        refine jr_icmp_eqN (tgt := 149) hg dX8_given_142 (by decide) (by omega) (by omega) (fun h142 => ?_) (fun h142 => ?_)
                        · refine jr_iconst hg (nI 0) dX8_given_149 (by decide) ?_
                          refine jr_cS1v hg lk_X8_148 (by decide) (by decide) (Nat.le_of_ble_eq_true rfl) dX8_given_150 (c_X8_one hI (by decide)) ?_
                          refine jr_iaddN hg dX8_given_153 ?_
                          refine jr_istore hg dX8_given_154 (by decide) rfl ?_
                          refine jr_iinc hg 9 rfl (nI (_ + 1)) (nI_1 _) dX8_given_156 (by decide) rfl ?_
                          refine jr_goto (tgt := 47) hg dX8_given_159 (by decide) ?_
                          have e1 : zex (z_isk s p) (k + 1) = false := by rw [zex, h70, z_isk, show (s 8 k == p) = true by simp [h65], h79]; rfl
                          have e2 : zex (z_bdk s p) (k + 1) = true := by rw [zex, h91, z_bdk, show (s 8 k == p) = true by simp [h65], h100, show (s 9 k != s 1 p) = true by simp [h117]]; rfl
                          have e3 : zcnt (z_nm s p) (k + 1) = zcnt (z_nm s p) k + 0 := by rw [zcnt_s, z_nm, show (s 8 k == p) = true by simp [h65], show (s 6 (s 7 k) != 4) = false by simp [h142]]; rfl
                          rw [e1, e2, e3] at ih2
                          exact jr_lv [4, 5, 6, 7, 8, 9, 3, 2, 1, 0] rfl ih2
                        · refine jr_iconst hg (nI 1) dX8_given_145 (by decide) ?_
                          refine jr_goto (tgt := 150) hg dX8_given_146 (by decide) ?_
                          refine jr_cS1v hg lk_X8_148 (by decide) (by decide) (Nat.le_of_ble_eq_true rfl) dX8_given_150 (c_X8_one hI (by decide)) ?_
                          refine jr_iaddN hg dX8_given_153 ?_
                          refine jr_istore hg dX8_given_154 (by decide) rfl ?_
                          refine jr_iinc hg 9 rfl (nI (_ + 1)) (nI_1 _) dX8_given_156 (by decide) rfl ?_
                          refine jr_goto (tgt := 47) hg dX8_given_159 (by decide) ?_
                          have e1 : zex (z_isk s p) (k + 1) = false := by rw [zex, h70, z_isk, show (s 8 k == p) = true by simp [h65], h79]; rfl
                          have e2 : zex (z_bdk s p) (k + 1) = true := by rw [zex, h91, z_bdk, show (s 8 k == p) = true by simp [h65], h100, show (s 9 k != s 1 p) = true by simp [h117]]; rfl
                          have e3 : zcnt (z_nm s p) (k + 1) = zcnt (z_nm s p) k + 1 := by rw [zcnt_s, z_nm, show (s 8 k == p) = true by simp [h65], show (s 6 (s 7 k) != 4) = true by simp [h142]]; rfl
                          rw [e1, e2, e3] at ih2
                          exact jr_lv [4, 5, 6, 7, 8, 9, 3, 2, 1, 0] rfl ih2
                · refine jr_iconst hg (nI 1) dX8_given_82 (by decide) ?_
                  refine jr_goto (tgt := 87) hg dX8_given_83 (by decide) ?_
                  refine jr_istore hg dX8_given_87 (by decide) rfl ?_
                  refine jr_iload hg 7 rfl dX8_given_89 ?_
                  refine jr_if_neZ (tgt := 120) hg dX8_given_91 (by decide) (fun h91 => ?_) (fun h91 => ?_)
                  · refine jr_iconst hg (nI 1) dX8_given_120 (by decide) ?_
                    refine jr_goto (tgt := 125) hg dX8_given_121 (by decide) ?_
                    refine jr_istore hg dX8_given_125 (by decide) rfl ?_
                    refine jr_iload hg 8 rfl dX8_given_127 ?_
                    refine jr_aload_n hg 2 rfl rfl dX8_given_129 ?_
                    refine gf_X8_39 hg (hI 35 (by decide)) dX8_given_130 ?_
                    refine jr_aload_n hg 2 rfl rfl dX8_given_133 ?_
                    refine gf_X8_42 hg (hI 35 (by decide)) dX8_given_134 ?_
                    refine jr_iload hg 9 rfl dX8_given_137 ?_
                    refine jr_ialdN hg (n := 200) (by omega) (by decide) (hI 45 (by decide)) (ac_45 _ _) dX8_given_139 ?_
                    refine jr_top ((Rk.2 _ (by omega)).1) ?_
                    refine jr_ialdN hg (n := 8) (by omega) (by decide) (hI 44 (by decide)) (ac_44 _ _) dX8_given_140 ?_
                    refine jr_top (Rl.2 _ (by omega)) ?_
                    refine jr_iconst hg (nI 4) dX8_given_141 (by decide) ?_
                    refine jr_icmp_eqN (tgt := 149) hg dX8_given_142 (by decide) (by omega) (by omega) (fun h142 => ?_) (fun h142 => ?_)
                    · refine jr_iconst hg (nI 0) dX8_given_149 (by decide) ?_
                      refine jr_cS1v hg lk_X8_148 (by decide) (by decide) (Nat.le_of_ble_eq_true rfl) dX8_given_150 (c_X8_one hI (by decide)) ?_
                      refine jr_iaddN hg dX8_given_153 ?_
                      refine jr_istore hg dX8_given_154 (by decide) rfl ?_
                      refine jr_iinc hg 9 rfl (nI (_ + 1)) (nI_1 _) dX8_given_156 (by decide) rfl ?_
                      refine jr_goto (tgt := 47) hg dX8_given_159 (by decide) ?_
                      have e1 : zex (z_isk s p) (k + 1) = true := by rw [zex, h70, z_isk, show (s 8 k == p) = true by simp [h65], h79]; rfl
                      have e2 : zex (z_bdk s p) (k + 1) = true := by rw [zex, h91]; rfl
                      have e3 : zcnt (z_nm s p) (k + 1) = zcnt (z_nm s p) k + 0 := by rw [zcnt_s, z_nm, show (s 8 k == p) = true by simp [h65], show (s 6 (s 7 k) != 4) = false by simp [h142]]; rfl
                      rw [e1, e2, e3] at ih2
                      exact jr_lv [4, 5, 6, 7, 8, 9, 3, 2, 1, 0] rfl ih2
                    · refine jr_iconst hg (nI 1) dX8_given_145 (by decide) ?_
                      refine jr_goto (tgt := 150) hg dX8_given_146 (by decide) ?_
                      refine jr_cS1v hg lk_X8_148 (by decide) (by decide) (Nat.le_of_ble_eq_true rfl) dX8_given_150 (c_X8_one hI (by decide)) ?_
                      refine jr_iaddN hg dX8_given_153 ?_
                      refine jr_istore hg dX8_given_154 (by decide) rfl ?_
                      refine jr_iinc hg 9 rfl (nI (_ + 1)) (nI_1 _) dX8_given_156 (by decide) rfl ?_
                      refine jr_goto (tgt := 47) hg dX8_given_159 (by decide) ?_
                      have e1 : zex (z_isk s p) (k + 1) = true := by rw [zex, h70, z_isk, show (s 8 k == p) = true by simp [h65], h79]; rfl
                      have e2 : zex (z_bdk s p) (k + 1) = true := by rw [zex, h91]; rfl
                      have e3 : zcnt (z_nm s p) (k + 1) = zcnt (z_nm s p) k + 1 := by rw [zcnt_s, z_nm, show (s 8 k == p) = true by simp [h65], show (s 6 (s 7 k) != 4) = true by simp [h142]]; rfl
                      rw [e1, e2, e3] at ih2
                      exact jr_lv [4, 5, 6, 7, 8, 9, 3, 2, 1, 0] rfl ih2
                  · refine jr_aload_n hg 1 rfl rfl dX8_given_94 ?_
                    refine jr_iload hg 9 rfl dX8_given_95 ?_
                    refine jr_cV1v hg lk_X8_271 (hI 35 (by decide)) rfl rfl (by decide) (by decide) (Nat.le_of_ble_eq_true rfl) dX8_given_97 (c_X8_isSure hI rall wall hk) ?_
                    refine jr_if_eqZ (tgt := 124) hg dX8_given_100 (by decide) (fun h100 => ?_) (fun h100 => ?_)
                    · refine jr_iconst hg (nI 0) dX8_given_124 (by decide) ?_
                      refine jr_istore hg dX8_given_125 (by decide) rfl ?_
                      refine jr_iload hg 8 rfl dX8_given_127 ?_
                      refine jr_aload_n hg 2 rfl rfl dX8_given_129 ?_
                      refine gf_X8_39 hg (hI 35 (by decide)) dX8_given_130 ?_
                      refine jr_aload_n hg 2 rfl rfl dX8_given_133 ?_
                      refine gf_X8_42 hg (hI 35 (by decide)) dX8_given_134 ?_
                      refine jr_iload hg 9 rfl dX8_given_137 ?_
                      refine jr_ialdN hg (n := 200) (by omega) (by decide) (hI 45 (by decide)) (ac_45 _ _) dX8_given_139 ?_
                      refine jr_top ((Rk.2 _ (by omega)).1) ?_
                      refine jr_ialdN hg (n := 8) (by omega) (by decide) (hI 44 (by decide)) (ac_44 _ _) dX8_given_140 ?_
                      refine jr_top (Rl.2 _ (by omega)) ?_
                      refine jr_iconst hg (nI 4) dX8_given_141 (by decide) ?_
                      refine jr_icmp_eqN (tgt := 149) hg dX8_given_142 (by decide) (by omega) (by omega) (fun h142 => ?_) (fun h142 => ?_)
                      · refine jr_iconst hg (nI 0) dX8_given_149 (by decide) ?_
                        refine jr_cS1v hg lk_X8_148 (by decide) (by decide) (Nat.le_of_ble_eq_true rfl) dX8_given_150 (c_X8_one hI (by decide)) ?_
                        refine jr_iaddN hg dX8_given_153 ?_
                        refine jr_istore hg dX8_given_154 (by decide) rfl ?_
                        refine jr_iinc hg 9 rfl (nI (_ + 1)) (nI_1 _) dX8_given_156 (by decide) rfl ?_
                        refine jr_goto (tgt := 47) hg dX8_given_159 (by decide) ?_
                        have e1 : zex (z_isk s p) (k + 1) = true := by rw [zex, h70, z_isk, show (s 8 k == p) = true by simp [h65], h79]; rfl
                        have e2 : zex (z_bdk s p) (k + 1) = false := by rw [zex, h91, z_bdk, show (s 8 k == p) = true by simp [h65], h100]; rfl
                        have e3 : zcnt (z_nm s p) (k + 1) = zcnt (z_nm s p) k + 0 := by rw [zcnt_s, z_nm, show (s 8 k == p) = true by simp [h65], show (s 6 (s 7 k) != 4) = false by simp [h142]]; rfl
                        rw [e1, e2, e3] at ih2
                        exact jr_lv [4, 5, 6, 7, 8, 9, 3, 2, 1, 0] rfl ih2
                      · refine jr_iconst hg (nI 1) dX8_given_145 (by decide) ?_
                        refine jr_goto (tgt := 150) hg dX8_given_146 (by decide) ?_
                        refine jr_cS1v hg lk_X8_148 (by decide) (by decide) (Nat.le_of_ble_eq_true rfl) dX8_given_150 (c_X8_one hI (by decide)) ?_
                        refine jr_iaddN hg dX8_given_153 ?_
                        refine jr_istore hg dX8_given_154 (by decide) rfl ?_
                        refine jr_iinc hg 9 rfl (nI (_ + 1)) (nI_1 _) dX8_given_156 (by decide) rfl ?_
                        refine jr_goto (tgt := 47) hg dX8_given_159 (by decide) ?_
                        have e1 : zex (z_isk s p) (k + 1) = true := by rw [zex, h70, z_isk, show (s 8 k == p) = true by simp [h65], h79]; rfl
                        have e2 : zex (z_bdk s p) (k + 1) = false := by rw [zex, h91, z_bdk, show (s 8 k == p) = true by simp [h65], h100]; rfl
                        have e3 : zcnt (z_nm s p) (k + 1) = zcnt (z_nm s p) k + 1 := by rw [zcnt_s, z_nm, show (s 8 k == p) = true by simp [h65], show (s 6 (s 7 k) != 4) = true by simp [h142]]; rfl
                        rw [e1, e2, e3] at ih2
                        exact jr_lv [4, 5, 6, 7, 8, 9, 3, 2, 1, 0] rfl ih2
                    · refine jr_aload_n hg 1 rfl rfl dX8_given_103 ?_
                      refine gf_X8_48 hg (hI 35 (by decide)) dX8_given_104 ?_
                      refine jr_iload hg 9 rfl dX8_given_107 ?_
                      refine jr_ialdN hg (n := 200) (by omega) (by decide) (hI 47 (by decide)) (ac_47 _ _) dX8_given_109 ?_
                      refine jr_top ((Rk.2 _ (by omega)).2.2) ?_
                      refine jr_aload_n hg 1 rfl rfl dX8_given_110 ?_
                      refine gf_X8_23 hg (hI 35 (by decide)) dX8_given_111 ?_
                      refine jr_iload hg 6 rfl dX8_given_114 ?_
                      refine jr_ialdN hg (n := 24) (by omega) (by decide) (hI 39 (by decide)) (ac_39 _ _) dX8_given_116 ?_
                      refine jr_top ((Rp.2 _ (by omega)).1) ?_
                      refine jr_icmp_eqN (tgt := 124) hg dX8_given_117 (by decide) (by omega) (by omega) (fun h117 => ?_) (fun h117 => ?_)
                      · refine jr_iconst hg (nI 0) dX8_given_124 (by decide) ?_
                        refine jr_istore hg dX8_given_125 (by decide) rfl ?_
                        refine jr_iload hg 8 rfl dX8_given_127 ?_
                        refine jr_aload_n hg 2 rfl rfl dX8_given_129 ?_
                        refine gf_X8_39 hg (hI 35 (by decide)) dX8_given_130 ?_
                        refine jr_aload_n hg 2 rfl rfl dX8_given_133 ?_
                        refine gf_X8_42 hg (hI 35 (by decide)) dX8_given_134 ?_
                        refine jr_iload hg 9 rfl dX8_given_137 ?_
                        refine jr_ialdN hg (n := 200) (by omega) (by decide) (hI 45 (by decide)) (ac_45 _ _) dX8_given_139 ?_
                        refine jr_top ((Rk.2 _ (by omega)).1) ?_
                        refine jr_ialdN hg (n := 8) (by omega) (by decide) (hI 44 (by decide)) (ac_44 _ _) dX8_given_140 ?_
                        refine jr_top (Rl.2 _ (by omega)) ?_
                        refine jr_iconst hg (nI 4) dX8_given_141 (by decide) ?_
                        refine jr_icmp_eqN (tgt := 149) hg dX8_given_142 (by decide) (by omega) (by omega) (fun h142 => ?_) (fun h142 => ?_)
                        · refine jr_iconst hg (nI 0) dX8_given_149 (by decide) ?_
                          refine jr_cS1v hg lk_X8_148 (by decide) (by decide) (Nat.le_of_ble_eq_true rfl) dX8_given_150 (c_X8_one hI (by decide)) ?_
                          refine jr_iaddN hg dX8_given_153 ?_
                          refine jr_istore hg dX8_given_154 (by decide) rfl ?_
                          refine jr_iinc hg 9 rfl (nI (_ + 1)) (nI_1 _) dX8_given_156 (by decide) rfl ?_
                          refine jr_goto (tgt := 47) hg dX8_given_159 (by decide) ?_
                          have e1 : zex (z_isk s p) (k + 1) = true := by rw [zex, h70, z_isk, show (s 8 k == p) = true by simp [h65], h79]; rfl
                          have e2 : zex (z_bdk s p) (k + 1) = false := by rw [zex, h91, z_bdk, show (s 8 k == p) = true by simp [h65], h100, show (s 9 k != s 1 p) = false by simp [h117]]; rfl
                          have e3 : zcnt (z_nm s p) (k + 1) = zcnt (z_nm s p) k + 0 := by rw [zcnt_s, z_nm, show (s 8 k == p) = true by simp [h65], show (s 6 (s 7 k) != 4) = false by simp [h142]]; rfl
                          rw [e1, e2, e3] at ih2
                          exact jr_lv [4, 5, 6, 7, 8, 9, 3, 2, 1, 0] rfl ih2
                        · refine jr_iconst hg (nI 1) dX8_given_145 (by decide) ?_
                          refine jr_goto (tgt := 150) hg dX8_given_146 (by decide) ?_
                          refine jr_cS1v hg lk_X8_148 (by decide) (by decide) (Nat.le_of_ble_eq_true rfl) dX8_given_150 (c_X8_one hI (by decide)) ?_
                          refine jr_iaddN hg dX8_given_153 ?_
                          refine jr_istore hg dX8_given_154 (by decide) rfl ?_
                          refine jr_iinc hg 9 rfl (nI (_ + 1)) (nI_1 _) dX8_given_156 (by decide) rfl ?_
                          refine jr_goto (tgt := 47) hg dX8_given_159 (by decide) ?_
                          have e1 : zex (z_isk s p) (k + 1) = true := by rw [zex, h70, z_isk, show (s 8 k == p) = true by simp [h65], h79]; rfl
                          have e2 : zex (z_bdk s p) (k + 1) = false := by rw [zex, h91, z_bdk, show (s 8 k == p) = true by simp [h65], h100, show (s 9 k != s 1 p) = false by simp [h117]]; rfl
                          have e3 : zcnt (z_nm s p) (k + 1) = zcnt (z_nm s p) k + 1 := by rw [zcnt_s, z_nm, show (s 8 k == p) = true by simp [h65], show (s 6 (s 7 k) != 4) = true by simp [h142]]; rfl
                          rw [e1, e2, e3] at ih2
                          exact jr_lv [4, 5, 6, 7, 8, 9, 3, 2, 1, 0] rfl ih2
                      · refine jr_iconst hg (nI 1) dX8_given_120 (by decide) ?_
                        refine jr_goto (tgt := 125) hg dX8_given_121 (by decide) ?_
                        refine jr_istore hg dX8_given_125 (by decide) rfl ?_
                        refine jr_iload hg 8 rfl dX8_given_127 ?_
                        refine jr_aload_n hg 2 rfl rfl dX8_given_129 ?_
                        refine gf_X8_39 hg (hI 35 (by decide)) dX8_given_130 ?_
                        refine jr_aload_n hg 2 rfl rfl dX8_given_133 ?_
                        refine gf_X8_42 hg (hI 35 (by decide)) dX8_given_134 ?_
                        refine jr_iload hg 9 rfl dX8_given_137 ?_
                        refine jr_ialdN hg (n := 200) (by omega) (by decide) (hI 45 (by decide)) (ac_45 _ _) dX8_given_139 ?_
                        refine jr_top ((Rk.2 _ (by omega)).1) ?_
                        refine jr_ialdN hg (n := 8) (by omega) (by decide) (hI 44 (by decide)) (ac_44 _ _) dX8_given_140 ?_
                        refine jr_top (Rl.2 _ (by omega)) ?_
                        refine jr_iconst hg (nI 4) dX8_given_141 (by decide) ?_
                        refine jr_icmp_eqN (tgt := 149) hg dX8_given_142 (by decide) (by omega) (by omega) (fun h142 => ?_) (fun h142 => ?_)
                        · refine jr_iconst hg (nI 0) dX8_given_149 (by decide) ?_
                          refine jr_cS1v hg lk_X8_148 (by decide) (by decide) (Nat.le_of_ble_eq_true rfl) dX8_given_150 (c_X8_one hI (by decide)) ?_
                          refine jr_iaddN hg dX8_given_153 ?_
                          refine jr_istore hg dX8_given_154 (by decide) rfl ?_
                          refine jr_iinc hg 9 rfl (nI (_ + 1)) (nI_1 _) dX8_given_156 (by decide) rfl ?_
                          refine jr_goto (tgt := 47) hg dX8_given_159 (by decide) ?_
                          have e1 : zex (z_isk s p) (k + 1) = true := by rw [zex, h70, z_isk, show (s 8 k == p) = true by simp [h65], h79]; rfl
                          have e2 : zex (z_bdk s p) (k + 1) = true := by rw [zex, h91, z_bdk, show (s 8 k == p) = true by simp [h65], h100, show (s 9 k != s 1 p) = true by simp [h117]]; rfl
                          have e3 : zcnt (z_nm s p) (k + 1) = zcnt (z_nm s p) k + 0 := by rw [zcnt_s, z_nm, show (s 8 k == p) = true by simp [h65], show (s 6 (s 7 k) != 4) = false by simp [h142]]; rfl
                          rw [e1, e2, e3] at ih2
                          exact jr_lv [4, 5, 6, 7, 8, 9, 3, 2, 1, 0] rfl ih2
                        · refine jr_iconst hg (nI 1) dX8_given_145 (by decide) ?_
                          refine jr_goto (tgt := 150) hg dX8_given_146 (by decide) ?_
                          refine jr_cS1v hg lk_X8_148 (by decide) (by decide) (Nat.le_of_ble_eq_true rfl) dX8_given_150 (c_X8_one hI (by decide)) ?_
                          refine jr_iaddN hg dX8_given_153 ?_
                          refine jr_istore hg dX8_given_154 (by decide) rfl ?_
                          refine jr_iinc hg 9 rfl (nI (_ + 1)) (nI_1 _) dX8_given_156 (by decide) rfl ?_
                          refine jr_goto (tgt := 47) hg dX8_given_159 (by decide) ?_
                          have e1 : zex (z_isk s p) (k + 1) = true := by rw [zex, h70, z_isk, show (s 8 k == p) = true by simp [h65], h79]; rfl
                          have e2 : zex (z_bdk s p) (k + 1) = true := by rw [zex, h91, z_bdk, show (s 8 k == p) = true by simp [h65], h100, show (s 9 k != s 1 p) = true by simp [h117]]; rfl
                          have e3 : zcnt (z_nm s p) (k + 1) = zcnt (z_nm s p) k + 1 := by rw [zcnt_s, z_nm, show (s 8 k == p) = true by simp [h65], show (s 6 (s 7 k) != 4) = true by simp [h142]]; rfl
                          rw [e1, e2, e3] at ih2
                          exact jr_lv [4, 5, 6, 7, 8, 9, 3, 2, 1, 0] rfl ih2
        exact jr_lv [4, 5, 6, 7, 8, 9, 3, 2, 1, 0] rfl (lp47 0 (by omega))
    exact jr_lv [4, 5, 3, 2, 1, 0] rfl (lp26 0 (by omega))
  · refine jr_sipush hg (-1002) dX8_given_12 (by decide) ?_
    exact jr_iret hg rfl dX8_given_15 (zq_okR (if_neg (by rw [h9]; simp)) rall)

set_option maxRecDepth 100000 in
theorem c_X8_green {E : mm_E} (hI : mm_FR E) {M : mm_M} {s : zS} (hR : zR s M) (hW : zW s) (i : Int32) : mm_Cal E mX8_green [.ref (E.1 35), .int i] M (fun v M' => v = some (.int (zq_green s i).1) ∧ zR (zq_green s i).2 M') := by
  obtain ⟨Rp, Rl, Rk, Rw, Rt, Rd, Ro, Rq⟩ := hR
  obtain ⟨Wp, Wl, Wk, Ww, Wt, Wd, Wo, Wq⟩ := hW
  have hnp := Wp.1
  have hnl := Wl.1
  have hnk := Wk.1
  have rall : zR s M := ⟨Rp, Rl, Rk, Rw, Rt, Rd, Ro, Rq⟩
  have wall : zW s := ⟨Wp, Wl, Wk, Ww, Wt, Wd, Wo, Wq⟩
  refine jr_entry RX8 (by decide +kernel) (Nat.le_of_ble_eq_true rfl) (fun g hg => ?_)
  refine jr_lv (lv' := [(0, .ref (E.1 35)), (1, .int i)]) [0, 1] rfl ?_
  refine jr_iload_n hg 1 rfl rfl dX8_green_0 ?_
  refine jr_if_ge (tgt := 8) hg dX8_green_1 (by decide) (fun h1 => ?_) (fun h1 => ?_)
  · obtain ⟨i1, hi, rfl⟩ := nI_of (fun q => zlt_nle q h1)
    have h80 : zcnt (z_ab s 8) (s 0 0) = 0 := by have e2 : ∀ m, zcnt (z_ab s 8) m = 0 := (fun m => by induction m with | zero => rfl | succ m ih => (rw [zcnt_s, ih, z_ab, decide_eq_false (by have := z_gs_le Wk hnl m; omega)]; rfl)); exact e2 _
    refine jr_iconst hg (nI 0) dX8_green_8 (by decide) ?_
    refine jr_istore_n hg dX8_green_9 rfl (by decide) rfl ?_
    refine jr_bipush hg (nI 8) dX8_green_10 (by decide) ?_
    refine jr_istore_n hg dX8_green_12 rfl (by decide) rfl ?_
    skip
    have lp13 : ∀ m : Nat, (∀ q, q < s 0 0 → m < z_gs s q → z_gn s i1 q = false) → m ≤ 8 → mm_J g E mX8_green (fun v M' => v = some (.int (zq_green s (nI i1)).1) ∧ zR (zq_green s (nI i1)).2 M') 13 [(0, .ref (E.1 35)), (1, .int (nI i1)), (2, .int (nI ((zcnt (z_ab s m) (s 0 0))))), (3, .int (nI m))] [] (M) := by
      refine jr_dn (S := fun m => (∀ q, q < s 0 0 → m < z_gs s q → z_gn s i1 q = false) → m ≤ 8 → mm_J g E mX8_green (fun v M' => v = some (.int (zq_green s (nI i1)).1) ∧ zR (zq_green s (nI i1)).2 M') 13 [(0, .ref (E.1 35)), (1, .int (nI i1)), (2, .int (nI ((zcnt (z_ab s m) (s 0 0))))), (3, .int (nI m))] [] (M)) ?_ ?_
      · intro hab hm8
        show mm_J g E mX8_green (fun v M' => v = some (.int (zq_green s (nI i1)).1) ∧ zR (zq_green s (nI i1)).2 M') 13 [(0, .ref (E.1 35)), (1, .int (nI i1)), (2, .int (nI ((zcnt (z_ab s 0) (s 0 0))))), (3, .int (nI 0))] [] (M)
        refine jr_iload_n hg 3 rfl rfl dX8_green_13 ?_
        refine jr_if_leN (tgt := 62) hg dX8_green_14 (by decide) (by omega) (fun h14 => ?_) (fun h => by omega)
        refine jr_iconst hg (-1) dX8_green_62 (by decide) ?_
        exact jr_iret hg rfl dX8_green_63 (zq_okR (by rw [zq_green, if_neg (fun q => zlt_nle q h1), zn_nI hi, zfind_of0 (fun q hq => by by_cases w : 0 < z_gs s q; exact hab q hq w; rw [z_gn, decide_eq_false w]; rfl)]; rfl) rall)
      · intro m ih hab hm8
        show mm_J g E mX8_green (fun v M' => v = some (.int (zq_green s (nI i1)).1) ∧ zR (zq_green s (nI i1)).2 M') 13 [(0, .ref (E.1 35)), (1, .int (nI i1)), (2, .int (nI ((zcnt (z_ab s (m + 1)) (s 0 0))))), (3, .int (nI (m + 1)))] [] (M)
        have ca := zcnt_le (z_ab s (m + 1)) (s 0 0)
        refine jr_iload_n hg 3 rfl rfl dX8_green_13 ?_
        refine jr_if_leN (tgt := 62) hg dX8_green_14 (by decide) (by omega) (fun h => by omega) (fun h14 => ?_)
        refine jr_iconst hg (nI 0) dX8_green_17 (by decide) ?_
        refine jr_istore hg dX8_green_18 (by decide) rfl ?_
        have lp20 : ∀ p : Nat, p ≤ s 0 0 → (∀ q, q < p → z_gs s q = m + 1 → z_gn s i1 q = false) → mm_J g E mX8_green (fun v M' => v = some (.int (zq_green s (nI i1)).1) ∧ zR (zq_green s (nI i1)).2 M') 20 [(0, .ref (E.1 35)), (1, .int (nI i1)), (2, .int (nI ((zcnt (z_ab s (m + 1)) (s 0 0) + zcnt (z_ee s (m + 1)) p)))), (3, .int (nI ((m + 1)))), (4, .int (nI p))] [] (M) := by
          refine jr_up (S := fun p => (∀ q, q < p → z_gs s q = m + 1 → z_gn s i1 q = false) → mm_J g E mX8_green (fun v M' => v = some (.int (zq_green s (nI i1)).1) ∧ zR (zq_green s (nI i1)).2 M') 20 [(0, .ref (E.1 35)), (1, .int (nI i1)), (2, .int (nI ((zcnt (z_ab s (m + 1)) (s 0 0) + zcnt (z_ee s (m + 1)) p)))), (3, .int (nI ((m + 1)))), (4, .int (nI p))] [] (M)) (n := s 0 0) ?_ ?_
          · intro hin
            show mm_J g E mX8_green (fun v M' => v = some (.int (zq_green s (nI i1)).1) ∧ zR (zq_green s (nI i1)).2 M') 20 [(0, .ref (E.1 35)), (1, .int (nI i1)), (2, .int (nI ((zcnt (z_ab s (m + 1)) (s 0 0) + zcnt (z_ee s (m + 1)) (s 0 0))))), (3, .int (nI ((m + 1)))), (4, .int (nI (s 0 0)))] [] (M)
            refine jr_iload hg 4 rfl dX8_green_20 ?_
            refine jr_aload_n hg 0 rfl rfl dX8_green_22 ?_
            refine gf_X8_154 hg (hI 35 (by decide)) dX8_green_23 ?_
            refine jr_top (Rp.1) ?_
            refine jr_icmp_geN (tgt := 56) hg dX8_green_26 (by decide) (by omega) (by omega) (fun h26 => ?_) (fun h => by omega)
            refine jr_iinc hg 3 rfl (nI m) (show nI (m + 1) + Int32.ofInt (-1) = nI m from pk_m1 m) dX8_green_56 (by decide) rfl ?_
            refine jr_goto (tgt := 13) hg dX8_green_59 (by decide) ?_
            have hx := ih (fun q hq hm => by by_cases w : z_gs s q = m + 1; exact hin q hq w; exact hab q hq (by omega)) (by omega)
            rw [z_ab_s] at hx
            exact jr_lv [1, 2, 3, 0] rfl hx
          · intro p hp ih2 hin
            show mm_J g E mX8_green (fun v M' => v = some (.int (zq_green s (nI i1)).1) ∧ zR (zq_green s (nI i1)).2 M') 20 [(0, .ref (E.1 35)), (1, .int (nI i1)), (2, .int (nI ((zcnt (z_ab s (m + 1)) (s 0 0) + zcnt (z_ee s (m + 1)) p)))), (3, .int (nI ((m + 1)))), (4, .int (nI p))] [] (M)
            have cg := zcnt_le (z_gr s p) (s 0 2)
            have ce := zcnt_le (z_ee s (m + 1)) p
            refine jr_iload hg 4 rfl dX8_green_20 ?_
            refine jr_aload_n hg 0 rfl rfl dX8_green_22 ?_
            refine gf_X8_154 hg (hI 35 (by decide)) dX8_green_23 ?_
            refine jr_top (Rp.1) ?_
            refine jr_icmp_geN (tgt := 56) hg dX8_green_26 (by decide) (by omega) (by omega) (fun h => by omega) (fun h26 => ?_)
            refine jr_aload_n hg 0 rfl rfl dX8_green_29 ?_
            refine jr_iload hg 4 rfl dX8_green_30 ?_
            refine jr_cV1v hg lk_X8_183 (hI 35 (by decide)) rfl rfl (by decide) (by decide) (Nat.le_of_ble_eq_true rfl) dX8_green_32 (c_X8_greens hI rall wall hp) ?_
            refine jr_iload_n hg 3 rfl rfl dX8_green_35 ?_
            refine jr_icmp_neN (tgt := 50) hg dX8_green_36 (by decide) (by omega) (by omega) (fun h36 => ?_) (fun h36 => ?_)
            · refine jr_iinc hg 4 rfl (nI (_ + 1)) (nI_1 _) dX8_green_50 (by decide) rfl ?_
              refine jr_goto (tgt := 20) hg dX8_green_53 (by decide) ?_
              have e : zcnt (z_ee s (m + 1)) (p + 1) = zcnt (z_ee s (m + 1)) p := by rw [zcnt_s, z_ee, show (z_gs s p == m + 1) = false by simp [h36]]; rfl
              rw [e] at ih2
              exact jr_lv [1, 2, 3, 4, 0] rfl (ih2 (fun q hq he => by by_cases w : q = p; subst w; exact absurd he h36; exact hin q (by omega) he))
            · refine jr_iload_n hg 2 rfl rfl dX8_green_39 ?_
              refine jr_iload_n hg 1 rfl rfl dX8_green_40 ?_
              refine jr_icmp_neN (tgt := 47) hg dX8_green_41 (by decide) (by omega) (by omega) (fun h41 => ?_) (fun h41 => ?_)
              · refine jr_iinc hg 2 rfl (nI (_ + 1)) (nI_1 _) dX8_green_47 (by decide) rfl ?_
                refine jr_iinc hg 4 rfl (nI (_ + 1)) (nI_1 _) dX8_green_50 (by decide) rfl ?_
                refine jr_goto (tgt := 20) hg dX8_green_53 (by decide) ?_
                have e : zcnt (z_ee s (m + 1)) (p + 1) = zcnt (z_ee s (m + 1)) p + 1 := by rw [zcnt_s, z_ee, show (z_gs s p == m + 1) = true by simp [h36]]; rfl
                rw [e] at ih2
                have hrk : zcnt (z_gt s p) (s 0 0) = zcnt (z_ab s (m + 1)) (s 0 0) + zcnt (z_ee s (m + 1)) p := by have q := z_gt_n hp; rw [show z_gs s p = m + 1 from h36] at q; exact q
                exact jr_lv [2, 3, 1, 4, 0] rfl (ih2 (fun q hq he => by by_cases w : q = p; subst w; rw [z_gn, hrk]; simp [h41]; exact hin q (by omega) he))
              · have hrk : zcnt (z_gt s p) (s 0 0) = zcnt (z_ab s (m + 1)) (s 0 0) + zcnt (z_ee s (m + 1)) p := by have q := z_gt_n hp; rw [show z_gs s p = m + 1 from h36] at q; exact q
                have hgn : z_gn s i1 p = true := by rw [z_gn, hrk, h41, decide_eq_true (show 0 < zcnt (z_gr s p) (s 0 2) by omega)]; simp
                have hlow : ∀ q, q < p → z_gn s i1 q = false := by
                  intro q hq
                  by_cases w : m + 1 < z_gs s q
                  · exact hab q (by omega) w
                  · by_cases w2 : z_gs s q = m + 1
                    · exact hin q hq w2
                    · have hlt := z_gt_lt (q := q) hp (by have h36 : z_gs s p = m + 1 := h36; omega)
                      rw [z_gn, show (zcnt (z_gt s q) (s 0 0) == i1) = false by simp; omega]; simp
                refine jr_iload hg 4 rfl dX8_green_44 ?_
                exact jr_iret hg rfl dX8_green_46 (zq_okR (by rw [zq_green, if_neg (fun q => zlt_nle q h1), zn_nI hi, zfind_of hp hgn hlow, zmv_s]) rall)
        exact jr_lv [1, 2, 3, 4, 0] rfl (lp20 0 (by omega) (fun q hq he => by omega))
    exact jr_lv [2, 3, 1, 0] rfl (by have q := lp13 8 (fun q hq hm => absurd (z_gs_le Wk hnl q) (by omega)) (by omega); rw [h80] at q; exact q)
  · refine jr_sipush hg (-1002) dX8_green_4 (by decide) ?_
    exact jr_iret hg rfl dX8_green_7 (zq_okR (if_pos (by rw [Int32.lt_iff_toInt_lt]; rw [Int32.le_iff_toInt_le] at h1; omega)) rall)
