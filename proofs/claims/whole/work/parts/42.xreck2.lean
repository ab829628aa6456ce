theorem zX_r_c {o t y : Nat → Nat} {r : Nat} {b : Bool} {M M1 : mm_M} (h : ∀ d, d ∈ [6, 30, 31, 32] → M1.1 d = M.1 d) (q : zX_r o t y r b M) : zX_r o t y r b M1 := by
  simp only [zX_r, h 6 (by decide), h 30 (by decide), h 31 (by decide), h 32 (by decide)]
  exact q
theorem zX_r_0o {n o t y : Nat → Nat} {r : Nat} {b : Bool} {M : mm_M} (q : zX_r o t y r b M) : zX_r (z_mix n o 0) t y r (b || z_df o n 0) M := by rw [z_mix_0, z_df, Bool.or_false]; exact q
theorem zX_r_0t {n o t y : Nat → Nat} {r : Nat} {b : Bool} {M : mm_M} (q : zX_r o t y r b M) : zX_r o (z_mix n t 0) y r (b || z_df t n 0) M := by rw [z_mix_0, z_df, Bool.or_false]; exact q
theorem zX_r_0y {n o t y : Nat → Nat} {r : Nat} {b : Bool} {M : mm_M} (q : zX_r o t y r b M) : zX_r o t (z_mix n y 0) r (b || z_df y n 0) M := by rw [z_mix_0, z_df, Bool.or_false]; exact q
theorem z_df_rf (f : Nat → Nat) (n : Nat) : z_df f f n = false := by rw [z_df_same (Nat.zero_le n) (fun _ _ _ => rfl)]; rfl
theorem z_t1_w {s : zS} {w a : Nat} (ha : a < 4) (h : z_tw s (w / 3) (w % 3) ≠ 0) : z_t1 s (4 * w + a) = 1 + 96 * z_ts s (w / 3) (w % 3) a / z_tw s (w / 3) (w % 3) := by
  rw [z_t1, show (4 * w + a) / 12 = w / 3 by omega, show (4 * w + a) / 4 % 3 = w % 3 by omega, show (4 * w + a) % 4 = a by omega, if_neg h]
theorem z_t1_z {s : zS} {w j : Nat} (hj : j / 4 = w) (h : z_tw s (w / 3) (w % 3) = 0) : z_t1 s j = s 13 j := by
  rw [z_t1, show j / 12 = w / 3 by omega, show j / 4 % 3 = w % 3 by omega, if_pos h]
/-- odds by answer after n looks -/
def zX_b (s : zS) (n : Nat) (M : mm_M) : Prop := ∀ l k a, l < 8 → k < 3 → a < 4 → M.1 34 (12 * l + 4 * k + a) = nI (zsum (z_tf s l k a) n)

set_option maxRecDepth 100000 in
theorem c_X6_findOdds {E : mm_E} (hI : mm_FX E) {M : mm_M} {s : zS} (hR : zX s M) (hW : zW s) {r : Nat} {b : Bool} (hr : zX_r (s 12) (s 13) (s 14) r b M) : mm_Cal E mX6_findOdds [.ref (E.1 6), .ref (E.1 4), .ref (E.1 3)] M (fun q M' => q = none ∧ zX_r (z_o1 s) (s 13) (s 14) r (b || z_df (s 12) (z_o1 s) (3 * s 0 0)) M' ∧ mm_same [6, 30, 33] M M') := by
  obtain ⟨Rp, Rl, Rk, Rw, Rt, Rd, Ro, Rq⟩ := hR
  obtain ⟨Wp, Wl, Wk, Ww, Wt, Wd, Wo, Wq⟩ := hW
  have hnp := Wp.1
  have hnl := Wl.1
  have hnk := Wk.1
  refine jr_entry RX6 (by decide +kernel) (Nat.le_of_ble_eq_true rfl) (fun g hg => ?_)
  refine jr_lv (lv' := [(0, .ref (E.1 6)), (1, .ref (E.1 4)), (2, .ref (E.1 3))]) [0, 1, 2] rfl ?_
  refine jr_iconst hg (nI 0) dX6_findOdds_0 (by decide) ?_
  refine jr_istore_n hg dX6_findOdds_1 rfl (by decide) rfl ?_
  have lp2 : ∀ i : Nat, i ≤ 72 → ∀ M1, (∀ j, j < i → M1.2 33 j = lN (s 14 (j % 3))) → mm_same [33] M M1 → mm_J g E mX6_findOdds (fun q M' => q = none ∧ zX_r (z_o1 s) (s 13) (s 14) r (b || z_df (s 12) (z_o1 s) (3 * s 0 0)) M' ∧ mm_same [6, 30, 33] M M') 2 [(0, .ref (E.1 6)), (1, .ref (E.1 4)), (2, .ref (E.1 3)), (3, .int (nI i))] [] (M1) := by
    refine jr_up (S := fun i => ∀ M1, (∀ j, j < i → M1.2 33 j = lN (s 14 (j % 3))) → mm_same [33] M M1 → mm_J g E mX6_findOdds (fun q M' => q = none ∧ zX_r (z_o1 s) (s 13) (s 14) r (b || z_df (s 12) (z_o1 s) (3 * s 0 0)) M' ∧ mm_same [6, 30, 33] M M') 2 [(0, .ref (E.1 6)), (1, .ref (E.1 4)), (2, .ref (E.1 3)), (3, .int (nI i))] [] (M1)) (n := 72) ?_ ?_
    · intro M1 hrow hs
      show mm_J g E mX6_findOdds (fun q M' => q = none ∧ zX_r (z_o1 s) (s 13) (s 14) r (b || z_df (s 12) (z_o1 s) (3 * s 0 0)) M' ∧ mm_same [6, 30, 33] M M') 2 [(0, .ref (E.1 6)), (1, .ref (E.1 4)), (2, .ref (E.1 3)), (3, .int (nI (72)))] [] (M1)
      refine jr_iload_n hg 3 rfl rfl dX6_findOdds_2 ?_
      refine jr_aload_n hg 0 rfl rfl dX6_findOdds_3 ?_
      refine gf_X6_21 hg (hI 6 (by decide)) dX6_findOdds_4 ?_
      refine jr_alen hg (t0 := 1) (hI 33 (by decide)) (ac_33 _ _) rfl rfl dX6_findOdds_7 ?_
      refine jr_icmp_geN (tgt := 31) hg dX6_findOdds_8 (by decide) (by omega) (by omega) (fun h8 => ?_) (fun h => by omega)
      refine jr_iconst hg (nI 0) dX6_findOdds_31 (by decide) ?_
      refine jr_istore_n hg dX6_findOdds_32 rfl (by decide) rfl ?_
      have lp33 : ∀ n : Nat, n ≤ s 0 2 → ∀ M2, zX_c s n M2 → mm_same [33] M M2 → mm_J g E mX6_findOdds (fun q M' => q = none ∧ zX_r (z_o1 s) (s 13) (s 14) r (b || z_df (s 12) (z_o1 s) (3 * s 0 0)) M' ∧ mm_same [6, 30, 33] M M') 33 [(0, .ref (E.1 6)), (1, .ref (E.1 4)), (2, .ref (E.1 3)), (3, .int (nI n))] [] (M2) := by
        refine jr_up (S := fun n => ∀ M2, zX_c s n M2 → mm_same [33] M M2 → mm_J g E mX6_findOdds (fun q M' => q = none ∧ zX_r (z_o1 s) (s 13) (s 14) r (b || z_df (s 12) (z_o1 s) (3 * s 0 0)) M' ∧ mm_same [6, 30, 33] M M') 33 [(0, .ref (E.1 6)), (1, .ref (E.1 4)), (2, .ref (E.1 3)), (3, .int (nI n))] [] (M2)) (n := s 0 2) ?_ ?_
        · intro M2 hc hs
          show mm_J g E mX6_findOdds (fun q M' => q = none ∧ zX_r (z_o1 s) (s 13) (s 14) r (b || z_df (s 12) (z_o1 s) (3 * s 0 0)) M' ∧ mm_same [6, 30, 33] M M') 33 [(0, .ref (E.1 6)), (1, .ref (E.1 4)), (2, .ref (E.1 3)), (3, .int (nI (s 0 2)))] [] (M2)
          have Rk : zX_k s M2 := zX_k_c (hs.at (by decide)) Rk
          have Ro : zX_o s M2 := zX_o_c (hs.at (by decide)) Ro
          refine jr_iload_n hg 3 rfl rfl dX6_findOdds_33 ?_
          refine jr_aload_n hg 2 rfl rfl dX6_findOdds_34 ?_
          refine jr_cV0v hg lk_X6_79 (hI 3 (by decide)) rfl rfl (by decide) (by decide) (Nat.le_of_ble_eq_true rfl) dX6_findOdds_35 (c_X3_size hI Rk Wk) ?_
          refine jr_icmp_geN (tgt := 74) hg dX6_findOdds_38 (by decide) (by omega) (by omega) (fun h38 => ?_) (fun h => by omega)
          refine jr_iconst hg (nI 0) dX6_findOdds_74 (by decide) ?_
          refine jr_istore_n hg dX6_findOdds_75 rfl (by decide) rfl ?_
          have lp76 : ∀ p : Nat, p ≤ s 0 0 → ∀ M3, zX_r (z_mix (z_o1 s) (s 12) (3 * p)) (s 13) (s 14) r (b || z_df (s 12) (z_o1 s) (3 * p)) M3 → zX_c s (s 0 2) M3 → mm_same [6, 30, 33] M M3 → mm_J g E mX6_findOdds (fun q M' => q = none ∧ zX_r (z_o1 s) (s 13) (s 14) r (b || z_df (s 12) (z_o1 s) (3 * s 0 0)) M' ∧ mm_same [6, 30, 33] M M') 76 [(0, .ref (E.1 6)), (1, .ref (E.1 4)), (2, .ref (E.1 3)), (3, .int (nI p))] [] (M3) := by
            refine jr_up (S := fun p => ∀ M3, zX_r (z_mix (z_o1 s) (s 12) (3 * p)) (s 13) (s 14) r (b || z_df (s 12) (z_o1 s) (3 * p)) M3 → zX_c s (s 0 2) M3 → mm_same [6, 30, 33] M M3 → mm_J g E mX6_findOdds (fun q M' => q = none ∧ zX_r (z_o1 s) (s 13) (s 14) r (b || z_df (s 12) (z_o1 s) (3 * s 0 0)) M' ∧ mm_same [6, 30, 33] M M') 76 [(0, .ref (E.1 6)), (1, .ref (E.1 4)), (2, .ref (E.1 3)), (3, .int (nI p))] [] (M3)) (n := s 0 0) ?_ ?_
            · intro M3 hx hc hs
              show mm_J g E mX6_findOdds (fun q M' => q = none ∧ zX_r (z_o1 s) (s 13) (s 14) r (b || z_df (s 12) (z_o1 s) (3 * s 0 0)) M' ∧ mm_same [6, 30, 33] M M') 76 [(0, .ref (E.1 6)), (1, .ref (E.1 4)), (2, .ref (E.1 3)), (3, .int (nI (s 0 0)))] [] (M3)
              have Rp : zX_p s M3 := zX_p_c (hs.at (by decide)) Rp
              refine jr_iload_n hg 3 rfl rfl dX6_findOdds_76 ?_
              refine jr_aload_n hg 1 rfl rfl dX6_findOdds_77 ?_
              refine jr_cV0v hg lk_X6_65 (hI 4 (by decide)) rfl rfl (by decide) (by decide) (Nat.le_of_ble_eq_true rfl) dX6_findOdds_78 (c_X4_size hI Rp Wp) ?_
              refine jr_icmp_geN (tgt := 116) hg dX6_findOdds_81 (by decide) (by omega) (by omega) (fun h81 => ?_) (fun h => by omega)
              exact jr_vret hg rfl dX6_findOdds_116 (⟨rfl, by rw [z_mix_eq (fun j hj => by rw [z_o1, if_neg (by omega)])] at hx; exact hx, hs⟩)
            · intro p hp ih3 M3 hx hc hs
              show mm_J g E mX6_findOdds (fun q M' => q = none ∧ zX_r (z_o1 s) (s 13) (s 14) r (b || z_df (s 12) (z_o1 s) (3 * s 0 0)) M' ∧ mm_same [6, 30, 33] M M') 76 [(0, .ref (E.1 6)), (1, .ref (E.1 4)), (2, .ref (E.1 3)), (3, .int (nI p))] [] (M3)
              have Rp : zX_p s M3 := zX_p_c (hs.at (by decide)) Rp
              have hpp := Wp.2 p hp
              refine jr_iload_n hg 3 rfl rfl dX6_findOdds_76 ?_
              refine jr_aload_n hg 1 rfl rfl dX6_findOdds_77 ?_
              refine jr_cV0v hg lk_X6_65 (hI 4 (by decide)) rfl rfl (by decide) (by decide) (Nat.le_of_ble_eq_true rfl) dX6_findOdds_78 (c_X4_size hI Rp Wp) ?_
              refine jr_icmp_geN (tgt := 116) hg dX6_findOdds_81 (by decide) (by omega) (by omega) (fun h => by omega) (fun h81 => ?_)
              refine jr_aload_n hg 1 rfl rfl dX6_findOdds_84 ?_
              refine jr_iload_n hg 3 rfl rfl dX6_findOdds_85 ?_
              refine jr_cV1v hg lk_X6_99 (hI 4 (by decide)) rfl rfl (by decide) (by decide) (Nat.le_of_ble_eq_true rfl) dX6_findOdds_86 (c_X4_isKnown hI Rp Wp hp) ?_
              refine jr_if_eqN (tgt := 105) hg dX6_findOdds_89 (by decide) (by omega) (fun h89 => ?_) (fun h89 => ?_)
              · refine jr_aload_n hg 0 rfl rfl dX6_findOdds_105 ?_
                refine jr_iload_n hg 3 rfl rfl dX6_findOdds_106 ?_
                refine jr_cV1p hg lk_X6_109 (hI 6 (by decide)) rfl rfl (by decide) (by decide) (Nat.le_of_ble_eq_true rfl) dX6_findOdds_107 (c_X6_keepShares hI hnp Wk Wo hnl hp hx hc (by omega)) (fun r M' h => ?_)
                obtain ⟨rfl, x2, f2⟩ := h
                refine jr_st (show _ = [] from rfl) ?_
                refine jr_iinc hg 3 rfl (nI (_ + 1)) (nI_1 _) dX6_findOdds_110 (by decide) rfl ?_
                refine jr_goto (tgt := 76) hg dX6_findOdds_113 (by decide) ?_
                exact jr_lv [1, 2, 3, 0] rfl (ih3 M' x2 (zX_c_c ((f2 33 (by decide)).2) hc) (hs.tr (f2.wk (by decide))))
              · refine jr_aload_n hg 0 rfl rfl dX6_findOdds_92 ?_
                refine jr_iload_n hg 3 rfl rfl dX6_findOdds_93 ?_
                refine jr_aload_n hg 1 rfl rfl dX6_findOdds_94 ?_
                refine jr_iload_n hg 3 rfl rfl dX6_findOdds_95 ?_
                refine jr_cV1v hg lk_X6_102 (hI 4 (by decide)) rfl rfl (by decide) (by decide) (Nat.le_of_ble_eq_true rfl) dX6_findOdds_96 (c_X4_kindOf hI Rp Wp hp) ?_
                refine jr_cV2p hg lk_X6_105 (hI 6 (by decide)) rfl rfl (by decide) (by decide) (Nat.le_of_ble_eq_true rfl) dX6_findOdds_99 (c_X6_keepKnown hI hnp Wk Wo hnl hp hx hpp.1 (by omega)) (fun r M' h => ?_)
                obtain ⟨rfl, x2, f2⟩ := h
                refine jr_st (show _ = [] from rfl) ?_
                refine jr_goto (tgt := 110) hg dX6_findOdds_102 (by decide) ?_
                refine jr_iinc hg 3 rfl (nI (_ + 1)) (nI_1 _) dX6_findOdds_110 (by decide) rfl ?_
                refine jr_goto (tgt := 76) hg dX6_findOdds_113 (by decide) ?_
                exact jr_lv [1, 2, 3, 0] rfl (ih3 M' x2 (zX_c_c ((f2 33 (by decide)).2) hc) (hs.tr (f2.wk (by decide))))
          exact jr_lv [1, 2, 3, 0] rfl (lp76 0 (by omega) M2 (zX_r_0o (zX_r_c (hs.at (by decide)) hr)) hc (hs.wk (by decide)))
        · intro n hn ih2 M2 hc hs
          show mm_J g E mX6_findOdds (fun q M' => q = none ∧ zX_r (z_o1 s) (s 13) (s 14) r (b || z_df (s 12) (z_o1 s) (3 * s 0 0)) M' ∧ mm_same [6, 30, 33] M M') 33 [(0, .ref (E.1 6)), (1, .ref (E.1 4)), (2, .ref (E.1 3)), (3, .int (nI n))] [] (M2)
          have Rk : zX_k s M2 := zX_k_c (hs.at (by decide)) Rk
          have Ro : zX_o s M2 := zX_o_c (hs.at (by decide)) Ro
          have hlo := Wk.2.1 n hn
          refine jr_iload_n hg 3 rfl rfl dX6_findOdds_33 ?_
          refine jr_aload_n hg 2 rfl rfl dX6_findOdds_34 ?_
          refine jr_cV0v hg lk_X6_79 (hI 3 (by decide)) rfl rfl (by decide) (by decide) (Nat.le_of_ble_eq_true rfl) dX6_findOdds_35 (c_X3_size hI Rk Wk) ?_
          refine jr_icmp_geN (tgt := 74) hg dX6_findOdds_38 (by decide) (by omega) (by omega) (fun h => by omega) (fun h38 => ?_)
          refine jr_aload_n hg 2 rfl rfl dX6_findOdds_41 ?_
          refine jr_iload_n hg 3 rfl rfl dX6_findOdds_42 ?_
          refine jr_cV1v hg lk_X6_82 (hI 3 (by decide)) rfl rfl (by decide) (by decide) (Nat.le_of_ble_eq_true rfl) dX6_findOdds_43 (c_X3_counts hI Rk Wk hn) ?_
          refine jr_if_eqZ (tgt := 68) hg dX6_findOdds_46 (by decide) (fun h46 => ?_) (fun h46 => ?_)
          · refine jr_iinc hg 3 rfl (nI (_ + 1)) (nI_1 _) dX6_findOdds_68 (by decide) rfl ?_
            refine jr_goto (tgt := 33) hg dX6_findOdds_71 (by decide) ?_
            exact jr_lv [1, 2, 3, 0] rfl (ih2 M2 (fun q k hq hk => by rw [hc q k hq hk, z_ch, if_neg (by simp [h46])]) hs)
          · refine jr_aload_n hg 0 rfl rfl dX6_findOdds_49 ?_
            refine jr_aload_n hg 2 rfl rfl dX6_findOdds_50 ?_
            refine jr_iload_n hg 3 rfl rfl dX6_findOdds_51 ?_
            refine jr_cV1v hg lk_X6_86 (hI 3 (by decide)) rfl rfl (by decide) (by decide) (Nat.le_of_ble_eq_true rfl) dX6_findOdds_52 (c_X3_lookerOf hI Rk Wk hn) ?_
            refine jr_aload_n hg 2 rfl rfl dX6_findOdds_55 ?_
            refine jr_iload_n hg 3 rfl rfl dX6_findOdds_56 ?_
            refine jr_cV1v hg lk_X6_89 (hI 3 (by decide)) rfl rfl (by decide) (by decide) (Nat.le_of_ble_eq_true rfl) dX6_findOdds_57 (c_X3_pictureOf hI Rk Wk hn) ?_
            refine jr_aload_n hg 2 rfl rfl dX6_findOdds_60 ?_
            refine jr_iload_n hg 3 rfl rfl dX6_findOdds_61 ?_
            refine jr_cV1v hg lk_X6_92 (hI 3 (by decide)) rfl rfl (by decide) (by decide) (Nat.le_of_ble_eq_true rfl) dX6_findOdds_62 (c_X3_answerOf hI Rk Wk hn) ?_
            refine jr_cV3p hg lk_X6_95 (hI 6 (by decide)) rfl rfl (by decide) (by decide) (Nat.le_of_ble_eq_true rfl) dX6_findOdds_65 (c_X6_weigh hI Ro Wo (by omega) (by omega) hlo.2.2 h46 hc) (fun r M' h => ?_)
            obtain ⟨rfl, hc2, f2⟩ := h
            refine jr_st (show _ = [] from rfl) ?_
            refine jr_iinc hg 3 rfl (nI (_ + 1)) (nI_1 _) dX6_findOdds_68 (by decide) rfl ?_
            refine jr_goto (tgt := 33) hg dX6_findOdds_71 (by decide) ?_
            exact jr_lv [1, 2, 3, 0] rfl (ih2 M' hc2 (hs.tr f2))
      exact jr_lv [1, 2, 3, 0] rfl (lp33 0 (by omega) M1 (fun q k hq hk => by rw [hrow (q * 3 + k) (by omega), show (q * 3 + k) % 3 = k by omega]; rfl) hs)
    · intro i hi ih M1 hrow hs
      show mm_J g E mX6_findOdds (fun q M' => q = none ∧ zX_r (z_o1 s) (s 13) (s 14) r (b || z_df (s 12) (z_o1 s) (3 * s 0 0)) M' ∧ mm_same [6, 30, 33] M M') 2 [(0, .ref (E.1 6)), (1, .ref (E.1 4)), (2, .ref (E.1 3)), (3, .int (nI i))] [] (M1)
      have hy := Wo.2.2.1 (i % 3) (Nat.mod_lt _ (by decide))
      refine jr_iload_n hg 3 rfl rfl dX6_findOdds_2 ?_
      refine jr_aload_n hg 0 rfl rfl dX6_findOdds_3 ?_
      refine gf_X6_21 hg (hI 6 (by decide)) dX6_findOdds_4 ?_
      refine jr_alen hg (t0 := 1) (hI 33 (by decide)) (ac_33 _ _) rfl rfl dX6_findOdds_7 ?_
      refine jr_icmp_geN (tgt := 31) hg dX6_findOdds_8 (by decide) (by omega) (by omega) (fun h => by omega) (fun h8 => ?_)
      refine jr_aload_n hg 0 rfl rfl dX6_findOdds_11 ?_
      refine gf_X6_21 hg (hI 6 (by decide)) dX6_findOdds_12 ?_
      refine jr_iload_n hg 3 rfl rfl dX6_findOdds_15 ?_
      refine jr_aload_n hg 0 rfl rfl dX6_findOdds_16 ?_
      refine jr_iload_n hg 3 rfl rfl dX6_findOdds_17 ?_
      refine jr_iconst hg (nI 3) dX6_findOdds_18 (by decide) ?_
      refine jr_iremN hg dX6_findOdds_19 (by omega) (by omega) (by omega) ?_
      refine jr_cV1v hg lk_X6_75 (hI 6 (by decide)) rfl rfl (by decide) (by decide) (Nat.le_of_ble_eq_true rfl) dX6_findOdds_20 (c_X6_skyOf hI (zX_o_c (hs.at (by decide)) Ro) Wo (Nat.mod_lt _ (by decide))) ?_
      refine jr_i2l hg (lN _) dX6_findOdds_23 (nI_l (by omega)) ?_
      refine jr_lastN hg (n := 72) (by omega) (by decide) (hI 33 (by decide)) (ac_33) dX6_findOdds_24 ?_
      refine jr_iinc hg 3 rfl (nI (_ + 1)) (nI_1 _) dX6_findOdds_25 (by decide) rfl ?_
      refine jr_goto (tgt := 2) hg dX6_findOdds_28 (by decide) ?_
      exact jr_lv [1, 2, 3, 0] rfl (ih (mm_sl M1 33 (vp_updL (M1.2 33) i (lN (s 14 (i % 3))))) (fun j hj => by show vp_updL (M1.2 33) i _ j = _; by_cases e : j = i; rw [e, pk_uLs]; rw [pk_uLn e]; exact hrow j (by omega)) (hs.sl (by decide)))
  exact jr_lv [1, 2, 3, 0] rfl (lp2 0 (by omega) M (fun j hj => by omega) mm_same.rf)

set_option maxRecDepth 100000 in
theorem c_X6_addOdds {E : mm_E} (hI : mm_FX E) {M : mm_M} {s : zS} (Ro : zX_o s M) (Wo : zW_o s) {n : Nat} (h7 : s 7 n < 8) (h8 : s 8 n < 24) (h9 : s 9 n ≤ 3) (hco : z_co s n = true) (hb : zX_b s n M) : mm_Cal E mX6_addOdds [.ref (E.1 6), .int (nI ((s 7 n))), .int (nI ((s 8 n))), .int (nI ((s 9 n)))] M (fun q M' => q = none ∧ zX_b s (n + 1) M' ∧ mm_same [34] M M') := by
  refine jr_entry RX6 (by decide +kernel) (Nat.le_of_ble_eq_true rfl) (fun g hg => ?_)
  refine jr_lv (lv' := [(0, .ref (E.1 6)), (1, .int (nI ((s 7 n)))), (2, .int (nI ((s 8 n)))), (3, .int (nI ((s 9 n))))]) [0, 1, 2, 3] rfl ?_
  refine jr_iconst hg (nI 0) dX6_addOdds_0 (by decide) ?_
  refine jr_istore hg dX6_addOdds_1 (by decide) rfl ?_
  have lp3 : ∀ k : Nat, k ≤ 3 → ∀ M1, (∀ L K A, L < 8 → K < 3 → A < 4 → M1.1 34 (12 * L + 4 * K + A) = nI (zsum (z_tf s L K A) (if (L = s 7 n ∧ A = s 9 n) ∧ K < k then n + 1 else n))) → mm_same [34] M M1 → mm_J g E mX6_addOdds (fun q M' => q = none ∧ zX_b s (n + 1) M' ∧ mm_same [34] M M') 3 [(0, .ref (E.1 6)), (1, .int (nI ((s 7 n)))), (2, .int (nI ((s 8 n)))), (3, .int (nI ((s 9 n)))), (4, .int (nI k))] [] (M1) := by
    refine jr_up (S := fun k => ∀ M1, (∀ L K A, L < 8 → K < 3 → A < 4 → M1.1 34 (12 * L + 4 * K + A) = nI (zsum (z_tf s L K A) (if (L = s 7 n ∧ A = s 9 n) ∧ K < k then n + 1 else n))) → mm_same [34] M M1 → mm_J g E mX6_addOdds (fun q M' => q = none ∧ zX_b s (n + 1) M' ∧ mm_same [34] M M') 3 [(0, .ref (E.1 6)), (1, .int (nI ((s 7 n)))), (2, .int (nI ((s 8 n)))), (3, .int (nI ((s 9 n)))), (4, .int (nI k))] [] (M1)) (n := 3) ?_ ?_
    · intro M1 hch hs
      show mm_J g E mX6_addOdds (fun q M' => q = none ∧ zX_b s (n + 1) M' ∧ mm_same [34] M M') 3 [(0, .ref (E.1 6)), (1, .int (nI ((s 7 n)))), (2, .int (nI ((s 8 n)))), (3, .int (nI ((s 9 n)))), (4, .int (nI (3)))] [] (M1)
      refine jr_iload hg 4 rfl dX6_addOdds_3 ?_
      refine jr_iconst hg (nI 3) dX6_addOdds_5 (by decide) ?_
      refine jr_icmp_geN (tgt := 47) hg dX6_addOdds_6 (by decide) (by omega) (by omega) (fun h6 => ?_) (fun h => by omega)
      exact jr_vret hg rfl dX6_addOdds_47 (⟨rfl, fun L K A hL hK hA => by rw [hch L K A hL hK hA]; by_cases e : L = s 7 n ∧ A = s 9 n; rw [if_pos ⟨e, hK⟩]; rw [if_neg (by omega), zsum_s, show z_tf s L K A n = 0 from if_neg (by simp only [Bool.and_eq_true, beq_iff_eq]; omega)]; rfl, hs⟩)
    · intro k hk ih M1 hch hs
      show mm_J g E mX6_addOdds (fun q M' => q = none ∧ zX_b s (n + 1) M' ∧ mm_same [34] M M') 3 [(0, .ref (E.1 6)), (1, .int (nI ((s 7 n)))), (2, .int (nI ((s 8 n)))), (3, .int (nI ((s 9 n)))), (4, .int (nI k))] [] (M1)
      have hcu : M1.1 34 (12 * s 7 n + 4 * k + s 9 n) = nI (zsum (z_tf s (s 7 n) k (s 9 n)) n) := (hch (s 7 n) k (s 9 n) h7 (by omega) (by omega)).trans (by rw [if_neg (by omega)])
      refine jr_iload hg 4 rfl dX6_addOdds_3 ?_
      refine jr_iconst hg (nI 3) dX6_addOdds_5 (by decide) ?_
      refine jr_icmp_geN (tgt := 47) hg dX6_addOdds_6 (by decide) (by omega) (by omega) (fun h => by omega) (fun h6 => ?_)
      refine jr_iload_n hg 1 rfl rfl dX6_addOdds_9 ?_
      refine jr_iload hg 4 rfl dX6_addOdds_10 ?_
      refine jr_iload_n hg 3 rfl rfl dX6_addOdds_12 ?_
      refine jr_cS3v hg lk_X6_45 (by decide) (by decide) (Nat.le_of_ble_eq_true rfl) dX6_addOdds_13 (c_X6_isTableCell hI h7 (by omega) (by omega)) ?_
      refine jr_if_eqN (tgt := 41) hg dX6_addOdds_16 (by decide) (by omega) (fun h => by omega) (fun h16 => ?_)
      refine jr_aload_n hg 0 rfl rfl dX6_addOdds_19 ?_
      refine gf_X6_25 hg (hI 6 (by decide)) dX6_addOdds_20 ?_
      refine jr_iload_n hg 1 rfl rfl dX6_addOdds_23 ?_
      refine jr_iload hg 4 rfl dX6_addOdds_24 ?_
      refine jr_iload_n hg 3 rfl rfl dX6_addOdds_26 ?_
      refine jr_cS3v hg lk_X6_49 (by decide) (by decide) (Nat.le_of_ble_eq_true rfl) dX6_addOdds_27 (c_X6_tableCell hI) ?_
      refine jr_dup2 hg dX6_addOdds_30 rfl rfl ?_
      refine jr_ialdN hg (n := 96) (by omega) (by decide) (hI 34 (by decide)) (ac_34 _ _) dX6_addOdds_31 ?_
      refine jr_top (hcu) ?_
      refine jr_aload_n hg 0 rfl rfl dX6_addOdds_32 ?_
      refine jr_iload_n hg 2 rfl rfl dX6_addOdds_33 ?_
      refine jr_iload hg 4 rfl dX6_addOdds_34 ?_
      refine jr_cV2v hg lk_X6_134 (hI 6 (by decide)) rfl rfl (by decide) (by decide) (Nat.le_of_ble_eq_true rfl) dX6_addOdds_36 (c_X6_oddsOf hI (zX_o_c (hs.at (by decide)) Ro) Wo h8 (by omega)) ?_
      refine jr_iaddN hg dX6_addOdds_39 ?_
      refine jr_iastN hg (n := 96) (by omega) (by decide) (hI 34 (by decide)) (ac_34) dX6_addOdds_40 ?_
      refine jr_iinc hg 4 rfl (nI (_ + 1)) (nI_1 _) dX6_addOdds_41 (by decide) rfl ?_
      refine jr_goto (tgt := 3) hg dX6_addOdds_44 (by decide) ?_
      refine jr_lv [1, 2, 3, 4, 0] rfl (ih _ (fun L K A hL hK hA => ?_) (hs.si (by decide)))
      show upd (M1.1 34) (12 * s 7 n + 4 * k + s 9 n) _ (12 * L + 4 * K + A) = _
      by_cases e : (L = s 7 n ∧ A = s 9 n) ∧ K = k
      · obtain ⟨⟨e1, e2⟩, e3⟩ := e; subst e1; subst e2; subst e3; rw [upd_s, if_pos ⟨⟨rfl, rfl⟩, by omega⟩, zsum_s, show z_tf s (s 7 n) K (s 9 n) n = s 12 (3 * s 8 n + K) by simp [z_tf, hco]]
      · rw [upd_n (by omega), hch L K A hL hK hA]
        by_cases e1 : (L = s 7 n ∧ A = s 9 n) ∧ K < k
        · rw [if_pos e1, if_pos ⟨e1.1, by omega⟩]
        · rw [if_neg e1, if_neg (by omega)]
  exact jr_lv [1, 2, 3, 4, 0] rfl (lp3 0 (by omega) M (fun L K A hL hK hA => by rw [if_neg (by omega)]; exact hb L K A hL hK hA) mm_same.rf)

set_option maxRecDepth 100000 in
theorem c_X6_keepTable {E : mm_E} (hI : mm_FX E) {M : mm_M} {s : zS} (Wk : zW_k s) (Wp : zW_p s) (Wo : zW_o s) {o y : Nat → Nat} {r w : Nat} {b : Bool} (hw : w < 24) (hx : zX_r o (z_mix (z_t1 s) (s 13) (4 * w)) y r (b || z_df (s 13) (z_t1 s) (4 * w)) M) (hb : zX_b s (s 0 2) M) : mm_Cal E mX6_keepTable [.ref (E.1 6), .int (nI ((4 * w)))] M (fun q M' => q = none ∧ zX_r o (z_mix (z_t1 s) (s 13) (4 * w + 4)) y r (b || z_df (s 13) (z_t1 s) (4 * w + 4)) M' ∧ mm_same [6, 31] M M') := by
  have hba : ∀ a, a < 4 → M.1 34 (4 * w + a) = nI (z_ts s (w / 3) (w % 3) a) := fun a ha => by have q := hb (w / 3) (w % 3) a (by omega) (by omega) ha; rw [show 12 * (w / 3) + 4 * (w % 3) + a = 4 * w + a by omega] at q; exact q
  have hts := fun a => z_ts_le Wk Wp Wo (l := w / 3) (k := w % 3) (a := a) (Nat.mod_lt _ (by decide))
  have hsw : zsum (z_ts s (w / 3) (w % 3)) 4 = z_tw s (w / 3) (w % 3) := by simp [zsum, z_tw]
  have htw : z_tw s (w / 3) (w % 3) ≤ 800000 := by have a0 := hts 0; have a1 := hts 1; have a2 := hts 2; have a3 := hts 3; rw [z_tw]; omega
  have hl : ∀ j, j < 96 → z_t1 s j < 2 ^ 31 := fun j hj => Nat.lt_of_le_of_lt (z_t1_in Wo j hj).2 (by decide)
  have hq : ∀ j, j < 96 → s 13 j < 2 ^ 31 := fun j hj => Nat.lt_of_le_of_lt (Wo.2.1 j hj).2 (by decide)
  refine jr_entry RX6 (by decide +kernel) (Nat.le_of_ble_eq_true rfl) (fun g hg => ?_)
  refine jr_lv (lv' := [(0, .ref (E.1 6)), (1, .int (nI ((4 * w))))]) [0, 1] rfl ?_
  refine jr_iconst hg (nI 0) dX6_keepTable_0 (by decide) ?_
  refine jr_istore_n hg dX6_keepTable_1 rfl (by decide) rfl ?_
  refine jr_iload_n hg 2 rfl rfl dX6_keepTable_2 ?_
  refine jr_istore_n hg dX6_keepTable_3 rfl (by decide) rfl ?_
  have lp4 : ∀ a : Nat, a ≤ 4 →  mm_J g E mX6_keepTable (fun q M' => q = none ∧ zX_r o (z_mix (z_t1 s) (s 13) (4 * w + 4)) y r (b || z_df (s 13) (z_t1 s) (4 * w + 4)) M' ∧ mm_same [6, 31] M M') 4 [(0, .ref (E.1 6)), (1, .int (nI ((4 * w)))), (2, .int (nI ((zsum (z_ts s (w / 3) (w % 3)) a)))), (3, .int (nI ((4 * w + a))))] [] (M) := by
    refine jr_up (S := fun a =>  mm_J g E mX6_keepTable (fun q M' => q = none ∧ zX_r o (z_mix (z_t1 s) (s 13) (4 * w + 4)) y r (b || z_df (s 13) (z_t1 s) (4 * w + 4)) M' ∧ mm_same [6, 31] M M') 4 [(0, .ref (E.1 6)), (1, .int (nI ((4 * w)))), (2, .int (nI ((zsum (z_ts s (w / 3) (w % 3)) a)))), (3, .int (nI ((4 * w + a))))] [] (M)) (n := 4) ?_ ?_
    · show mm_J g E mX6_keepTable (fun q M' => q = none ∧ zX_r o (z_mix (z_t1 s) (s 13) (4 * w + 4)) y r (b || z_df (s 13) (z_t1 s) (4 * w + 4)) M' ∧ mm_same [6, 31] M M') 4 [(0, .ref (E.1 6)), (1, .int (nI ((4 * w)))), (2, .int (nI ((zsum (z_ts s (w / 3) (w % 3)) (4))))), (3, .int (nI ((4 * w + (4)))))] [] (M)
      rw [hsw]
      refine jr_iload_n hg 3 rfl rfl dX6_keepTable_4 ?_
      refine jr_iload_n hg 1 rfl rfl dX6_keepTable_5 ?_
      refine jr_iconst hg (nI 4) dX6_keepTable_6 (by decide) ?_
      refine jr_iaddN hg dX6_keepTable_7 ?_
      refine jr_icmp_geN (tgt := 35) hg dX6_keepTable_8 (by decide) (by omega) (by omega) (fun h8 => ?_) (fun h => by omega)
      refine jr_iload_n hg 1 rfl rfl dX6_keepTable_35 ?_
      refine jr_istore_n hg dX6_keepTable_36 rfl (by decide) rfl ?_
      have lp37 : ∀ a : Nat, a ≤ 4 → ∀ M1, zX_r o (z_mix (z_t1 s) (s 13) (4 * w + a)) y r (b || z_df (s 13) (z_t1 s) (4 * w + a)) M1 → mm_same [6, 31] M M1 → mm_J g E mX6_keepTable (fun q M' => q = none ∧ zX_r o (z_mix (z_t1 s) (s 13) (4 * w + 4)) y r (b || z_df (s 13) (z_t1 s) (4 * w + 4)) M' ∧ mm_same [6, 31] M M') 37 [(0, .ref (E.1 6)), (1, .int (nI ((4 * w)))), (2, .int (nI ((z_tw s (w / 3) (w % 3))))), (3, .int (nI ((4 * w + a))))] [] (M1) := by
        refine jr_up (S := fun a => ∀ M1, zX_r o (z_mix (z_t1 s) (s 13) (4 * w + a)) y r (b || z_df (s 13) (z_t1 s) (4 * w + a)) M1 → mm_same [6, 31] M M1 → mm_J g E mX6_keepTable (fun q M' => q = none ∧ zX_r o (z_mix (z_t1 s) (s 13) (4 * w + 4)) y r (b || z_df (s 13) (z_t1 s) (4 * w + 4)) M' ∧ mm_same [6, 31] M M') 37 [(0, .ref (E.1 6)), (1, .int (nI ((4 * w)))), (2, .int (nI ((z_tw s (w / 3) (w % 3))))), (3, .int (nI ((4 * w + a))))] [] (M1)) (n := 4) ?_ ?_
        · intro M1 hx1 hs
          show mm_J g E mX6_keepTable (fun q M' => q = none ∧ zX_r o (z_mix (z_t1 s) (s 13) (4 * w + 4)) y r (b || z_df (s 13) (z_t1 s) (4 * w + 4)) M' ∧ mm_same [6, 31] M M') 37 [(0, .ref (E.1 6)), (1, .int (nI ((4 * w)))), (2, .int (nI ((z_tw s (w / 3) (w % 3))))), (3, .int (nI ((4 * w + (4)))))] [] (M1)
          refine jr_iload_n hg 3 rfl rfl dX6_keepTable_37 ?_
          refine jr_iload_n hg 1 rfl rfl dX6_keepTable_38 ?_
          refine jr_iconst hg (nI 4) dX6_keepTable_39 (by decide) ?_
          refine jr_iaddN hg dX6_keepTable_40 ?_
          refine jr_icmp_geN (tgt := 85) hg dX6_keepTable_41 (by decide) (by omega) (by omega) (fun h41 => ?_) (fun h => by omega)
          exact jr_vret hg rfl dX6_keepTable_85 (⟨rfl, hx1, hs⟩)
        · intro a ha ih2 M1 hx1 hs
          show mm_J g E mX6_keepTable (fun q M' => q = none ∧ zX_r o (z_mix (z_t1 s) (s 13) (4 * w + 4)) y r (b || z_df (s 13) (z_t1 s) (4 * w + 4)) M' ∧ mm_same [6, 31] M M') 37 [(0, .ref (E.1 6)), (1, .int (nI ((4 * w)))), (2, .int (nI ((z_tw s (w / 3) (w % 3))))), (3, .int (nI ((4 * w + a))))] [] (M1)
          have hta := hts a
          refine jr_iload_n hg 3 rfl rfl dX6_keepTable_37 ?_
          refine jr_iload_n hg 1 rfl rfl dX6_keepTable_38 ?_
          refine jr_iconst hg (nI 4) dX6_keepTable_39 (by decide) ?_
          refine jr_iaddN hg dX6_keepTable_40 ?_
          refine jr_icmp_geN (tgt := 85) hg dX6_keepTable_41 (by decide) (by omega) (by omega) (fun h => by omega) (fun h41 => ?_)
          refine jr_iload_n hg 3 rfl rfl dX6_keepTable_44 ?_
          refine jr_aload_n hg 0 rfl rfl dX6_keepTable_45 ?_
          refine gf_X6_25 hg (hI 6 (by decide)) dX6_keepTable_46 ?_
          refine jr_alen hg (t0 := 0) (hI 34 (by decide)) (ac_34 _ _) rfl rfl dX6_keepTable_49 ?_
          refine jr_icmp_geN (tgt := 85) hg dX6_keepTable_50 (by decide) (by omega) (by omega) (fun h => by omega) (fun h50 => ?_)
          refine jr_iload_n hg 2 rfl rfl dX6_keepTable_53 ?_
          refine jr_if_leN (tgt := 85) hg dX6_keepTable_54 (by decide) (by omega) (fun h54 => ?_) (fun h54 => ?_)
          · exact jr_vret hg rfl dX6_keepTable_85 (⟨rfl, by rw [z_mix_same (m := 4 * w + a) (by omega) (fun j h1 h2 => (z_t1_z (w := w) (by omega) h54).symm), z_df_same (m := 4 * w + a) (by omega) (fun j h1 h2 => (z_t1_z (w := w) (by omega) h54).symm)]; exact hx1, hs⟩)
          · refine jr_aload_n hg 0 rfl rfl dX6_keepTable_57 ?_
            refine jr_aload_n hg 0 rfl rfl dX6_keepTable_58 ?_
            refine gf_X6_15 hg (hI 6 (by decide)) dX6_keepTable_59 ?_
            refine jr_iload_n hg 3 rfl rfl dX6_keepTable_62 ?_
            refine jr_iconst hg (nI 1) dX6_keepTable_63 (by decide) ?_
            refine jr_bipush hg (nI 96) dX6_keepTable_64 (by decide) ?_
            refine jr_aload_n hg 0 rfl rfl dX6_keepTable_66 ?_
            refine gf_X6_25 hg (hI 6 (by decide)) dX6_keepTable_67 ?_
            refine jr_iload_n hg 3 rfl rfl dX6_keepTable_70 ?_
            refine jr_ialdN hg (n := 96) (by omega) (by decide) (hI 34 (by decide)) (ac_34 _ _) dX6_keepTable_71 ?_
            refine jr_top ((congrFun (hs 34 (by decide)).1 _).trans (hba a (by omega))) ?_
            refine jr_imulN hg dX6_keepTable_72 ?_
            refine jr_iload_n hg 2 rfl rfl dX6_keepTable_73 ?_
            refine jr_idivN hg dX6_keepTable_74 (by omega) (by omega) (by omega) ?_
            refine jr_iaddN hg dX6_keepTable_75 ?_
            refine jr_cV3p hg lk_X6_115 (hI 6 (by decide)) rfl rfl (by decide) (by decide) (Nat.le_of_ble_eq_true rfl) dX6_keepTable_76 (c_keep31m hI (j := 4 * w + a) hx1 (by omega) rfl (z_t1_w (by omega) (by omega)).symm (hl _ (by omega)) (hq _ (by omega))) (fun r M' h => ?_)
            obtain ⟨rfl, x2, f2⟩ := h
            refine jr_st (show _ = [] from rfl) ?_
            refine jr_iinc hg 3 rfl (nI (_ + 1)) (nI_1 _) dX6_keepTable_79 (by decide) rfl ?_
            refine jr_goto (tgt := 37) hg dX6_keepTable_82 (by decide) ?_
            exact jr_lv [1, 2, 3, 0] rfl (ih2 M' x2 (hs.tr f2))
      exact jr_lv [1, 2, 3, 0] rfl (lp37 0 (by omega) M hx mm_same.rf)
    · intro a ha ih 
      show mm_J g E mX6_keepTable (fun q M' => q = none ∧ zX_r o (z_mix (z_t1 s) (s 13) (4 * w + 4)) y r (b || z_df (s 13) (z_t1 s) (4 * w + 4)) M' ∧ mm_same [6, 31] M M') 4 [(0, .ref (E.1 6)), (1, .int (nI ((4 * w)))), (2, .int (nI ((zsum (z_ts s (w / 3) (w % 3)) a)))), (3, .int (nI ((4 * w + a))))] [] (M)
      refine jr_iload_n hg 3 rfl rfl dX6_keepTable_4 ?_
      refine jr_iload_n hg 1 rfl rfl dX6_keepTable_5 ?_
      refine jr_iconst hg (nI 4) dX6_keepTable_6 (by decide) ?_
      refine jr_iaddN hg dX6_keepTable_7 ?_
      refine jr_icmp_geN (tgt := 35) hg dX6_keepTable_8 (by decide) (by omega) (by omega) (fun h => by omega) (fun h8 => ?_)
      refine jr_iload_n hg 3 rfl rfl dX6_keepTable_11 ?_
      refine jr_aload_n hg 0 rfl rfl dX6_keepTable_12 ?_
      refine gf_X6_25 hg (hI 6 (by decide)) dX6_keepTable_13 ?_
      refine jr_alen hg (t0 := 0) (hI 34 (by decide)) (ac_34 _ _) rfl rfl dX6_keepTable_16 ?_
      refine jr_icmp_geN (tgt := 35) hg dX6_keepTable_17 (by decide) (by omega) (by omega) (fun h => by omega) (fun h17 => ?_)
      refine jr_iload_n hg 2 rfl rfl dX6_keepTable_20 ?_
      refine jr_aload_n hg 0 rfl rfl dX6_keepTable_21 ?_
      refine gf_X6_25 hg (hI 6 (by decide)) dX6_keepTable_22 ?_
      refine jr_iload_n hg 3 rfl rfl dX6_keepTable_25 ?_
      refine jr_ialdN hg (n := 96) (by omega) (by decide) (hI 34 (by decide)) (ac_34 _ _) dX6_keepTable_26 ?_
      refine jr_top (hba a (by omega)) ?_
      refine jr_iaddN hg dX6_keepTable_27 ?_
      refine jr_istore_n hg dX6_keepTable_28 rfl (by decide) rfl ?_
      refine jr_iinc hg 3 rfl (nI (_ + 1)) (nI_1 _) dX6_keepTable_29 (by decide) rfl ?_
      refine jr_goto (tgt := 4) hg dX6_keepTable_32 (by decide) ?_
      exact jr_lv [2, 3, 1, 0] rfl ih
  exact jr_lv [2, 3, 1, 0] rfl (lp4 0 (by omega))

set_option maxRecDepth 100000 in
theorem c_X6_findTables {E : mm_E} (hI : mm_FX E) {M : mm_M} {s : zS} (hR : zX s M) (hW : zW s) {r : Nat} {b : Bool} (hr : zX_r (s 12) (s 13) (s 14) r b M) : mm_Cal E mX6_findTables [.ref (E.1 6), .ref (E.1 3)] M (fun q M' => q = none ∧ zX_r (s 12) (z_t1 s) (s 14) r (b || z_df (s 13) (z_t1 s) 96) M' ∧ mm_same [6, 31, 34] M M') := by
  obtain ⟨Rp, Rl, Rk, Rw, Rt, Rd, Ro, Rq⟩ := hR
  obtain ⟨Wp, Wl, Wk, Ww, Wt, Wd, Wo, Wq⟩ := hW
  have hnp := Wp.1
  have hnl := Wl.1
  have hnk := Wk.1
  refine jr_entry RX6 (by decide +kernel) (Nat.le_of_ble_eq_true rfl) (fun g hg => ?_)
  refine jr_lv (lv' := [(0, .ref (E.1 6)), (1, .ref (E.1 3))]) [0, 1] rfl ?_
  refine jr_iconst hg (nI 0) dX6_findTables_0 (by decide) ?_
  refine jr_istore_n hg dX6_findTables_1 rfl (by decide) rfl ?_
  have lp2 : ∀ i : Nat, i ≤ 96 → ∀ M1, (∀ j, j < i → M1.1 34 j = nI 0) → mm_same [34] M M1 → mm_J g E mX6_findTables (fun q M' => q = none ∧ zX_r (s 12) (z_t1 s) (s 14) r (b || z_df (s 13) (z_t1 s) 96) M' ∧ mm_same [6, 31, 34] M M') 2 [(0, .ref (E.1 6)), (1, .ref (E.1 3)), (2, .int (nI i))] [] (M1) := by
    refine jr_up (S := fun i => ∀ M1, (∀ j, j < i → M1.1 34 j = nI 0) → mm_same [34] M M1 → mm_J g E mX6_findTables (fun q M' => q = none ∧ zX_r (s 12) (z_t1 s) (s 14) r (b || z_df (s 13) (z_t1 s) 96) M' ∧ mm_same [6, 31, 34] M M') 2 [(0, .ref (E.1 6)), (1, .ref (E.1 3)), (2, .int (nI i))] [] (M1)) (n := 96) ?_ ?_
    · intro M1 hrow hs
      show mm_J g E mX6_findTables (fun q M' => q = none ∧ zX_r (s 12) (z_t1 s) (s 14) r (b || z_df (s 13) (z_t1 s) 96) M' ∧ mm_same [6, 31, 34] M M') 2 [(0, .ref (E.1 6)), (1, .ref (E.1 3)), (2, .int (nI (96)))] [] (M1)
      refine jr_iload_n hg 2 rfl rfl dX6_findTables_2 ?_
      refine jr_aload_n hg 0 rfl rfl dX6_findTables_3 ?_
      refine gf_X6_25 hg (hI 6 (by decide)) dX6_findTables_4 ?_
      refine jr_alen hg (t0 := 0) (hI 34 (by decide)) (ac_34 _ _) rfl rfl dX6_findTables_7 ?_
      refine jr_icmp_geN (tgt := 24) hg dX6_findTables_8 (by decide) (by omega) (by omega) (fun h8 => ?_) (fun h => by omega)
      refine jr_iconst hg (nI 0) dX6_findTables_24 (by decide) ?_
      refine jr_istore_n hg dX6_findTables_25 rfl (by decide) rfl ?_
      have lp26 : ∀ n : Nat, n ≤ s 0 2 → ∀ M2, zX_b s n M2 → mm_same [34] M M2 → mm_J g E mX6_findTables (fun q M' => q = none ∧ zX_r (s 12) (z_t1 s) (s 14) r (b || z_df (s 13) (z_t1 s) 96) M' ∧ mm_same [6, 31, 34] M M') 26 [(0, .ref (E.1 6)), (1, .ref (E.1 3)), (2, .int (nI n))] [] (M2) := by
        refine jr_up (S := fun n => ∀ M2, zX_b s n M2 → mm_same [34] M M2 → mm_J g E mX6_findTables (fun q M' => q = none ∧ zX_r (s 12) (z_t1 s) (s 14) r (b || z_df (s 13) (z_t1 s) 96) M' ∧ mm_same [6, 31, 34] M M') 26 [(0, .ref (E.1 6)), (1, .ref (E.1 3)), (2, .int (nI n))] [] (M2)) (n := s 0 2) ?_ ?_
        · intro M2 hb hs
          show mm_J g E mX6_findTables (fun q M' => q = none ∧ zX_r (s 12) (z_t1 s) (s 14) r (b || z_df (s 13) (z_t1 s) 96) M' ∧ mm_same [6, 31, 34] M M') 26 [(0, .ref (E.1 6)), (1, .ref (E.1 3)), (2, .int (nI (s 0 2)))] [] (M2)
          have Rk : zX_k s M2 := zX_k_c (hs.at (by decide)) Rk
          have Ro : zX_o s M2 := zX_o_c (hs.at (by decide)) Ro
          refine jr_iload_n hg 2 rfl rfl dX6_findTables_26 ?_
          refine jr_aload_n hg 1 rfl rfl dX6_findTables_27 ?_
          refine jr_cV0v hg lk_X6_79 (hI 3 (by decide)) rfl rfl (by decide) (by decide) (Nat.le_of_ble_eq_true rfl) dX6_findTables_28 (c_X3_size hI Rk Wk) ?_
          refine jr_icmp_geN (tgt := 67) hg dX6_findTables_31 (by decide) (by omega) (by omega) (fun h31 => ?_) (fun h => by omega)
          refine jr_iconst hg (nI 0) dX6_findTables_67 (by decide) ?_
          refine jr_istore_n hg dX6_findTables_68 rfl (by decide) rfl ?_
          have lp69 : ∀ w : Nat, w ≤ 24 → ∀ M3, zX_r (s 12) (z_mix (z_t1 s) (s 13) (4 * w)) (s 14) r (b || z_df (s 13) (z_t1 s) (4 * w)) M3 → zX_b s (s 0 2) M3 → mm_same [6, 31, 34] M M3 → mm_J g E mX6_findTables (fun q M' => q = none ∧ zX_r (s 12) (z_t1 s) (s 14) r (b || z_df (s 13) (z_t1 s) 96) M' ∧ mm_same [6, 31, 34] M M') 69 [(0, .ref (E.1 6)), (1, .ref (E.1 3)), (2, .int (nI ((4 * w))))] [] (M3) := by
            refine jr_up (S := fun w => ∀ M3, zX_r (s 12) (z_mix (z_t1 s) (s 13) (4 * w)) (s 14) r (b || z_df (s 13) (z_t1 s) (4 * w)) M3 → zX_b s (s 0 2) M3 → mm_same [6, 31, 34] M M3 → mm_J g E mX6_findTables (fun q M' => q = none ∧ zX_r (s 12) (z_t1 s) (s 14) r (b || z_df (s 13) (z_t1 s) 96) M' ∧ mm_same [6, 31, 34] M M') 69 [(0, .ref (E.1 6)), (1, .ref (E.1 3)), (2, .int (nI ((4 * w))))] [] (M3)) (n := 24) ?_ ?_
            · intro M3 hx hb hs
              show mm_J g E mX6_findTables (fun q M' => q = none ∧ zX_r (s 12) (z_t1 s) (s 14) r (b || z_df (s 13) (z_t1 s) 96) M' ∧ mm_same [6, 31, 34] M M') 69 [(0, .ref (E.1 6)), (1, .ref (E.1 3)), (2, .int (nI ((4 * (24)))))] [] (M3)
              refine jr_iload_n hg 2 rfl rfl dX6_findTables_69 ?_
              refine jr_iconst hg (nI 4) dX6_findTables_70 (by decide) ?_
              refine jr_iaddN hg dX6_findTables_71 ?_
              refine jr_aload_n hg 0 rfl rfl dX6_findTables_72 ?_
              refine gf_X6_15 hg (hI 6 (by decide)) dX6_findTables_73 ?_
              refine jr_alen hg (t0 := 0) (hI 31 (by decide)) (ac_31 _ _) rfl rfl dX6_findTables_76 ?_
              refine jr_icmp_gtN (tgt := 91) hg dX6_findTables_77 (by decide) (by omega) (by omega) (fun h77 => ?_) (fun h => by omega)
              exact jr_vret hg rfl dX6_findTables_91 (⟨rfl, ⟨hx.1, fun j hj => by rw [hx.2.1 j hj, z_mix, if_pos (by omega)], hx.2.2⟩, hs⟩)
            · intro w hw ih3 M3 hx hb hs
              show mm_J g E mX6_findTables (fun q M' => q = none ∧ zX_r (s 12) (z_t1 s) (s 14) r (b || z_df (s 13) (z_t1 s) 96) M' ∧ mm_same [6, 31, 34] M M') 69 [(0, .ref (E.1 6)), (1, .ref (E.1 3)), (2, .int (nI ((4 * w))))] [] (M3)
              refine jr_iload_n hg 2 rfl rfl dX6_findTables_69 ?_
              refine jr_iconst hg (nI 4) dX6_findTables_70 (by decide) ?_
              refine jr_iaddN hg dX6_findTables_71 ?_
              refine jr_aload_n hg 0 rfl rfl dX6_findTables_72 ?_
              refine gf_X6_15 hg (hI 6 (by decide)) dX6_findTables_73 ?_
              refine jr_alen hg (t0 := 0) (hI 31 (by decide)) (ac_31 _ _) rfl rfl dX6_findTables_76 ?_
              refine jr_icmp_gtN (tgt := 91) hg dX6_findTables_77 (by decide) (by omega) (by omega) (fun h => by omega) (fun h77 => ?_)
              refine jr_aload_n hg 0 rfl rfl dX6_findTables_80 ?_
              refine jr_iload_n hg 2 rfl rfl dX6_findTables_81 ?_
              refine jr_cV1p hg lk_X6_131 (hI 6 (by decide)) rfl rfl (by decide) (by decide) (Nat.le_of_ble_eq_true rfl) dX6_findTables_82 (c_X6_keepTable hI Wk Wp Wo hw hx hb) (fun r M' h => ?_)
              obtain ⟨rfl, x2, f2⟩ := h
              refine jr_st (show _ = [] from rfl) ?_
              refine jr_iinc hg 2 rfl (nI (_ + 4)) (nI_add _ 4) dX6_findTables_85 (by decide) rfl ?_
              refine jr_goto (tgt := 69) hg dX6_findTables_88 (by decide) ?_
              exact jr_lv [1, 2, 0] rfl (ih3 M' x2 (fun L K A hL hK hA => by rw [(f2 34 (by decide)).1]; exact hb L K A hL hK hA) (hs.tr (f2.wk (by decide))))
          exact jr_lv [1, 2, 0] rfl (lp69 0 (by omega) M2 (zX_r_0t (zX_r_c (hs.at (by decide)) hr)) hb (hs.wk (by decide)))
        · intro n hn ih2 M2 hb hs
          show mm_J g E mX6_findTables (fun q M' => q = none ∧ zX_r (s 12) (z_t1 s) (s 14) r (b || z_df (s 13) (z_t1 s) 96) M' ∧ mm_same [6, 31, 34] M M') 26 [(0, .ref (E.1 6)), (1, .ref (E.1 3)), (2, .int (nI n))] [] (M2)
          have Rk : zX_k s M2 := zX_k_c (hs.at (by decide)) Rk
          have Ro : zX_o s M2 := zX_o_c (hs.at (by decide)) Ro
          have hlo := Wk.2.1 n hn
          refine jr_iload_n hg 2 rfl rfl dX6_findTables_26 ?_
          refine jr_aload_n hg 1 rfl rfl dX6_findTables_27 ?_
          refine jr_cV0v hg lk_X6_79 (hI 3 (by decide)) rfl rfl (by decide) (by decide) (Nat.le_of_ble_eq_true rfl) dX6_findTables_28 (c_X3_size hI Rk Wk) ?_
          refine jr_icmp_geN (tgt := 67) hg dX6_findTables_31 (by decide) (by omega) (by omega) (fun h => by omega) (fun h31 => ?_)
          refine jr_aload_n hg 1 rfl rfl dX6_findTables_34 ?_
          refine jr_iload_n hg 2 rfl rfl dX6_findTables_35 ?_
          refine jr_cV1v hg lk_X6_82 (hI 3 (by decide)) rfl rfl (by decide) (by decide) (Nat.le_of_ble_eq_true rfl) dX6_findTables_36 (c_X3_counts hI Rk Wk hn) ?_
          refine jr_if_eqZ (tgt := 61) hg dX6_findTables_39 (by decide) (fun h39 => ?_) (fun h39 => ?_)
          · refine jr_iinc hg 2 rfl (nI (_ + 1)) (nI_1 _) dX6_findTables_61 (by decide) rfl ?_
            refine jr_goto (tgt := 26) hg dX6_findTables_64 (by decide) ?_
            exact jr_lv [1, 2, 0] rfl (ih2 M2 (fun L K A hL hK hA => by rw [hb L K A hL hK hA, zsum_s, show z_tf s L K A n = 0 from if_neg (by simp [h39])]; rfl) hs)
          · refine jr_aload_n hg 0 rfl rfl dX6_findTables_42 ?_
            refine jr_aload_n hg 1 rfl rfl dX6_findTables_43 ?_
            refine jr_iload_n hg 2 rfl rfl dX6_findTables_44 ?_
            refine jr_cV1v hg lk_X6_86 (hI 3 (by decide)) rfl rfl (by decide) (by decide) (Nat.le_of_ble_eq_true rfl) dX6_findTables_45 (c_X3_lookerOf hI Rk Wk hn) ?_
            refine jr_aload_n hg 1 rfl rfl dX6_findTables_48 ?_
            refine jr_iload_n hg 2 rfl rfl dX6_findTables_49 ?_
            refine jr_cV1v hg lk_X6_89 (hI 3 (by decide)) rfl rfl (by decide) (by decide) (Nat.le_of_ble_eq_true rfl) dX6_findTables_50 (c_X3_pictureOf hI Rk Wk hn) ?_
            refine jr_aload_n hg 1 rfl rfl dX6_findTables_53 ?_
            refine jr_iload_n hg 2 rfl rfl dX6_findTables_54 ?_
            refine jr_cV1v hg lk_X6_92 (hI 3 (by decide)) rfl rfl (by decide) (by decide) (Nat.le_of_ble_eq_true rfl) dX6_findTables_55 (c_X3_answerOf hI Rk Wk hn) ?_
            refine jr_cV3p hg lk_X6_128 (hI 6 (by decide)) rfl rfl (by decide) (by decide) (Nat.le_of_ble_eq_true rfl) dX6_findTables_58 (c_X6_addOdds hI Ro Wo (by omega) (by omega) hlo.2.2 h39 hb) (fun r M' h => ?_)
            obtain ⟨rfl, hb2, f2⟩ := h
            refine jr_st (show _ = [] from rfl) ?_
            refine jr_iinc hg 2 rfl (nI (_ + 1)) (nI_1 _) dX6_findTables_61 (by decide) rfl ?_
            refine jr_goto (tgt := 26) hg dX6_findTables_64 (by decide) ?_
            exact jr_lv [1, 2, 0] rfl (ih2 M' hb2 (hs.tr f2))
      exact jr_lv [1, 2, 0] rfl (lp26 0 (by omega) M1 (fun L K A hL hK hA => hrow _ (by omega)) hs)
    · intro i hi ih M1 hrow hs
      show mm_J g E mX6_findTables (fun q M' => q = none ∧ zX_r (s 12) (z_t1 s) (s 14) r (b || z_df (s 13) (z_t1 s) 96) M' ∧ mm_same [6, 31, 34] M M') 2 [(0, .ref (E.1 6)), (1, .ref (E.1 3)), (2, .int (nI i))] [] (M1)
      refine jr_iload_n hg 2 rfl rfl dX6_findTables_2 ?_
      refine jr_aload_n hg 0 rfl rfl dX6_findTables_3 ?_
      refine gf_X6_25 hg (hI 6 (by decide)) dX6_findTables_4 ?_
      refine jr_alen hg (t0 := 0) (hI 34 (by decide)) (ac_34 _ _) rfl rfl dX6_findTables_7 ?_
      refine jr_icmp_geN (tgt := 24) hg dX6_findTables_8 (by decide) (by omega) (by omega) (fun h => by omega) (fun h8 => ?_)
      refine jr_aload_n hg 0 rfl rfl dX6_findTables_11 ?_
      refine gf_X6_25 hg (hI 6 (by decide)) dX6_findTables_12 ?_
      refine jr_iload_n hg 2 rfl rfl dX6_findTables_15 ?_
      refine jr_iconst hg (nI 0) dX6_findTables_16 (by decide) ?_
      refine jr_iastN hg (n := 96) (by omega) (by decide) (hI 34 (by decide)) (ac_34) dX6_findTables_17 ?_
      refine jr_iinc hg 2 rfl (nI (_ + 1)) (nI_1 _) dX6_findTables_18 (by decide) rfl ?_
      refine jr_goto (tgt := 2) hg dX6_findTables_21 (by decide) ?_
      exact jr_lv [1, 2, 0] rfl (ih (mm_si M1 34 (upd (M1.1 34) i (nI 0))) (fun j hj => by show upd (M1.1 34) i (nI 0) j = _; by_cases e : j = i; rw [e, upd_s]; rw [upd_n e]; exact hrow j (by omega)) (hs.si (by decide)))
  exact jr_lv [1, 2, 0] rfl (lp2 0 (by omega) M (fun j hj => by omega) mm_same.rf)

set_option maxRecDepth 100000 in
theorem c_X6_sumOfOdds {E : mm_E} (hI : mm_FX E) {M : mm_M} {s : zS} (Ro : zX_o s M) (Wo : zW_o s) {k n : Nat} (hk : k < 3) (hn : n ≤ 24) : mm_Cal E mX6_sumOfOdds [.ref (E.1 6), .int (nI k), .int (nI n)] M (ret1 (.int (nI (z_sm s k n))) M) := by
  refine jr_entry RX6 (by decide +kernel) (Nat.le_of_ble_eq_true rfl) (fun g hg => ?_)
  refine jr_lv (lv' := [(0, .ref (E.1 6)), (1, .int (nI k)), (2, .int (nI n))]) [0, 1, 2] rfl ?_
  refine jr_iconst hg (nI 0) dX6_sumOfOdds_0 (by decide) ?_
  refine jr_istore_n hg dX6_sumOfOdds_1 rfl (by decide) rfl ?_
  refine jr_iconst hg (nI 0) dX6_sumOfOdds_2 (by decide) ?_
  refine jr_istore hg dX6_sumOfOdds_3 (by decide) rfl ?_
  have lp5 : ∀ p : Nat, p ≤ n →  mm_J g E mX6_sumOfOdds (ret1 (.int (nI (z_sm s k n))) M) 5 [(0, .ref (E.1 6)), (1, .int (nI k)), (2, .int (nI n)), (3, .int (nI ((z_sm s k p)))), (4, .int (nI p))] [] (M) := by
    refine jr_up (S := fun p =>  mm_J g E mX6_sumOfOdds (ret1 (.int (nI (z_sm s k n))) M) 5 [(0, .ref (E.1 6)), (1, .int (nI k)), (2, .int (nI n)), (3, .int (nI ((z_sm s k p)))), (4, .int (nI p))] [] (M)) (n := n) ?_ ?_
    · show mm_J g E mX6_sumOfOdds (ret1 (.int (nI (z_sm s k n))) M) 5 [(0, .ref (E.1 6)), (1, .int (nI k)), (2, .int (nI n)), (3, .int (nI ((z_sm s k (n))))), (4, .int (nI (n)))] [] (M)
      refine jr_iload hg 4 rfl dX6_sumOfOdds_5 ?_
      refine jr_iload_n hg 2 rfl rfl dX6_sumOfOdds_7 ?_
      refine jr_icmp_geN (tgt := 27) hg dX6_sumOfOdds_8 (by decide) (by omega) (by omega) (fun h8 => ?_) (fun h => by omega)
      refine jr_iload_n hg 3 rfl rfl dX6_sumOfOdds_27 ?_
      exact jr_iret hg rfl dX6_sumOfOdds_28 (⟨rfl, rfl⟩)
    · intro p hp ih 
      show mm_J g E mX6_sumOfOdds (ret1 (.int (nI (z_sm s k n))) M) 5 [(0, .ref (E.1 6)), (1, .int (nI k)), (2, .int (nI n)), (3, .int (nI ((z_sm s k p)))), (4, .int (nI p))] [] (M)
      refine jr_iload hg 4 rfl dX6_sumOfOdds_5 ?_
      refine jr_iload_n hg 2 rfl rfl dX6_sumOfOdds_7 ?_
      refine jr_icmp_geN (tgt := 27) hg dX6_sumOfOdds_8 (by decide) (by omega) (by omega) (fun h => by omega) (fun h8 => ?_)
      refine jr_iload_n hg 3 rfl rfl dX6_sumOfOdds_11 ?_
      refine jr_aload_n hg 0 rfl rfl dX6_sumOfOdds_12 ?_
      refine jr_iload hg 4 rfl dX6_sumOfOdds_13 ?_
      refine jr_iload_n hg 1 rfl rfl dX6_sumOfOdds_15 ?_
      refine jr_cV2v hg lk_X6_134 (hI 6 (by decide)) rfl rfl (by decide) (by decide) (Nat.le_of_ble_eq_true rfl) dX6_sumOfOdds_16 (c_X6_oddsOf hI Ro Wo (by omega) hk) ?_
      refine jr_iaddN hg dX6_sumOfOdds_19 ?_
      refine jr_istore_n hg dX6_sumOfOdds_20 rfl (by decide) rfl ?_
      refine jr_iinc hg 4 rfl (nI (_ + 1)) (nI_1 _) dX6_sumOfOdds_21 (by decide) rfl ?_
      refine jr_goto (tgt := 5) hg dX6_sumOfOdds_24 (by decide) ?_
      exact jr_lv [2, 3, 4, 1, 0] rfl ih
  exact jr_lv [2, 3, 4, 1, 0] rfl (lp5 0 (by omega))

set_option maxRecDepth 100000 in
theorem c_X6_findSky {E : mm_E} (hI : mm_FX E) {M : mm_M} {s : zS} (Ro : zX_o s M) (Wo : zW_o s) (Wp : zW_p s) {r : Nat} {b : Bool} (hr : zX_r (s 12) (s 13) (s 14) r b M) : mm_Cal E mX6_findSky [.ref (E.1 6), .int (nI ((s 0 0)))] M (fun q M' => q = none ∧ zX_r (s 12) (s 13) (z_y1 s) r (b || z_df (s 14) (z_y1 s) 3) M' ∧ mm_same [6, 32] M M') := by
  have hnp := Wp.1
  have m1 := z_sm_le Wp Wo (k := 1) (n := s 0 0) (by decide) (Nat.le_refl _)
  have m2 := z_sm_le Wp Wo (k := 2) (n := s 0 0) (by decide) (Nat.le_refl _)
  have d1 : z_sm s 1 (s 0 0) / s 0 0 ≤ 1000 := Nat.div_le_of_le_mul m1
  have d2 : z_sm s 2 (s 0 0) / s 0 0 ≤ 1000 := Nat.div_le_of_le_mul m2
  have n1 : z_sm s 1 (s 0 0) < 2 ^ 31 := by omega
  have n2 : z_sm s 2 (s 0 0) < 2 ^ 31 := by omega
  have hl : ∀ j, j < 3 → z_y1 s j < 2 ^ 31 := fun j hj => Nat.lt_of_le_of_lt (z_y1_in Wp Wo j hj).2 (by decide)
  have hq : ∀ j, j < 3 → s 14 j < 2 ^ 31 := fun j hj => Nat.lt_of_le_of_lt (Wo.2.2.1 j hj).2 (by decide)
  refine jr_entry RX6 (by decide +kernel) (Nat.le_of_ble_eq_true rfl) (fun g hg => ?_)
  refine jr_lv (lv' := [(0, .ref (E.1 6)), (1, .int (nI ((s 0 0))))]) [0, 1] rfl ?_
  refine jr_iload_n hg 1 rfl rfl dX6_findSky_0 ?_
  refine jr_if_gtN (tgt := 5) hg dX6_findSky_1 (by decide) (by omega) (fun h1 => ?_) (fun h1 => ?_)
  · have hy : ∀ k, z_y1 s k = max 1 (if k = 0 then 1000 - z_sm s 1 (s 0 0) / s 0 0 - z_sm s 2 (s 0 0) / s 0 0 else z_sm s k (s 0 0) / s 0 0) := fun k => by rw [z_y1, if_neg (by omega)]
    refine jr_aload_n hg 0 rfl rfl dX6_findSky_5 ?_
    refine jr_iconst hg (nI 1) dX6_findSky_6 (by decide) ?_
    refine jr_iload_n hg 1 rfl rfl dX6_findSky_7 ?_
    refine jr_cV2v hg lk_X6_137 (hI 6 (by decide)) rfl rfl (by decide) (by decide) (Nat.le_of_ble_eq_true rfl) dX6_findSky_8 (c_X6_sumOfOdds hI Ro Wo (by decide) hnp) ?_
    refine jr_iload_n hg 1 rfl rfl dX6_findSky_11 ?_
    refine jr_idivN hg dX6_findSky_12 n1 (by omega) (by omega) ?_
    refine jr_istore_n hg dX6_findSky_13 rfl (by decide) rfl ?_
    refine jr_aload_n hg 1 rfl rfl dX6_findSky_14 ?_
    refine jr_iconst hg (nI 2) dX6_findSky_15 (by decide) ?_
    refine jr_iload_n hg 2 rfl rfl dX6_findSky_16 ?_
    refine jr_cV2v hg lk_X6_137 (hI 6 (by decide)) rfl rfl (by decide) (by decide) (Nat.le_of_ble_eq_true rfl) dX6_findSky_17 (c_X6_sumOfOdds hI Ro Wo (by decide) hnp) ?_
    refine jr_iload_n hg 2 rfl rfl dX6_findSky_20 ?_
    refine jr_idivN hg dX6_findSky_21 n2 (by omega) (by omega) ?_
    refine jr_istore_n hg dX6_findSky_22 rfl (by decide) rfl ?_
    refine jr_aload_n hg 2 rfl rfl dX6_findSky_23 ?_
    refine jr_aload_n hg 2 rfl rfl dX6_findSky_24 ?_
    refine gf_X6_18 hg (hI 6 (by decide)) dX6_findSky_25 ?_
    refine jr_iconst hg (nI 0) dX6_findSky_28 (by decide) ?_
    refine jr_iconst hg (nI 1) dX6_findSky_29 (by decide) ?_
    refine jr_sipush hg (nI 1000) dX6_findSky_30 (by decide) ?_
    refine jr_iload_n hg 1 rfl rfl dX6_findSky_33 ?_
    refine jr_isubN hg dX6_findSky_34 d1 ?_
    refine jr_iload_n hg 0 rfl rfl dX6_findSky_35 ?_
    refine jr_isub hg dX6_findSky_36 ?_
    refine jr_max hg wm_20_10 (by decide) (Nat.le_of_ble_eq_true rfl) dX6_findSky_37 wm_20_11 wm_20_12 wm_20_13 ?_
    refine jr_top (zmax1 (Nat.lt_of_le_of_lt (Nat.sub_le _ _) (by decide)) (Nat.lt_of_le_of_lt d2 (by decide))) ?_
    refine jr_cV3p hg lk_X6_115 (hI 6 (by decide)) rfl rfl (by decide) (by decide) (Nat.le_of_ble_eq_true rfl) dX6_findSky_40 (c_keep32m hI (j := 0) (zX_r_0y hr) (by decide) rfl (by rw [hy]; rfl) (hl _ (by decide)) (hq _ (by decide))) (fun r M' h => ?_)
    obtain ⟨rfl, x0, f0⟩ := h
    refine jr_st (show _ = [] from rfl) ?_
    refine jr_aload_n hg 2 rfl rfl dX6_findSky_43 ?_
    refine jr_aload_n hg 2 rfl rfl dX6_findSky_44 ?_
    refine gf_X6_18 hg (hI 6 (by decide)) dX6_findSky_45 ?_
    refine jr_iconst hg (nI 1) dX6_findSky_48 (by decide) ?_
    refine jr_iconst hg (nI 1) dX6_findSky_49 (by decide) ?_
    refine jr_iload_n hg 1 rfl rfl dX6_findSky_50 ?_
    refine jr_max hg wm_20_10 (by decide) (Nat.le_of_ble_eq_true rfl) dX6_findSky_51 wm_20_11 wm_20_12 wm_20_13 ?_
    refine jr_top (zmaxI (by decide) (Nat.lt_of_le_of_lt d1 (by decide))) ?_
    refine jr_cV3p hg lk_X6_115 (hI 6 (by decide)) rfl rfl (by decide) (by decide) (Nat.le_of_ble_eq_true rfl) dX6_findSky_54 (c_keep32m hI (j := 1) x0 (by decide) rfl (by rw [hy]; rfl) (hl _ (by decide)) (hq _ (by decide))) (fun r M' h => ?_)
    obtain ⟨rfl, x1, f1⟩ := h
    refine jr_st (show _ = [] from rfl) ?_
    refine jr_aload_n hg 2 rfl rfl dX6_findSky_57 ?_
    refine jr_aload_n hg 2 rfl rfl dX6_findSky_58 ?_
    refine gf_X6_18 hg (hI 6 (by decide)) dX6_findSky_59 ?_
    refine jr_iconst hg (nI 2) dX6_findSky_62 (by decide) ?_
    refine jr_iconst hg (nI 1) dX6_findSky_63 (by decide) ?_
    refine jr_iload_n hg 0 rfl rfl dX6_findSky_64 ?_
    refine jr_max hg wm_20_10 (by decide) (Nat.le_of_ble_eq_true rfl) dX6_findSky_65 wm_20_11 wm_20_12 wm_20_13 ?_
    refine jr_top (zmaxI (by decide) (Nat.lt_of_le_of_lt d2 (by decide))) ?_
    refine jr_cV3p hg lk_X6_115 (hI 6 (by decide)) rfl rfl (by decide) (by decide) (Nat.le_of_ble_eq_true rfl) dX6_findSky_68 (c_keep32m hI (j := 2) x1 (by decide) rfl (by rw [hy]; rfl) (hl _ (by decide)) (hq _ (by decide))) (fun r M' h => ?_)
    obtain ⟨rfl, x2, f2⟩ := h
    refine jr_st (show _ = [] from rfl) ?_
    exact jr_vret hg rfl dX6_findSky_71 (⟨rfl, ⟨x2.1, x2.2.1, fun j hj => by rw [x2.2.2.1 j hj, z_mix, if_pos (by omega)], x2.2.2.2⟩, f0.tr (f1.tr f2)⟩)
  · exact jr_vret hg rfl dX6_findSky_4 (⟨rfl, by rw [show z_y1 s = s 14 by rw [z_y1, if_pos h1], z_df_rf, Bool.or_false]; exact hr, mm_same.rf⟩)

theorem zW_r0 {t : zS} (h : zW t) {r : Nat} (hr : r ≤ 40) : zW (z_r0 t r) := ⟨h.1, h.2.1, h.2.2.1, h.2.2.2.1, h.2.2.2.2.1, h.2.2.2.2.2.1, ⟨h.2.2.2.2.2.2.1.1, h.2.2.2.2.2.2.1.2.1, h.2.2.2.2.2.2.1.2.2.1, hr⟩, h.2.2.2.2.2.2.2⟩
theorem zW_R1 {s : zS} (h : zW s) : zW (z_R1 s) := ⟨h.1, h.2.1, h.2.2.1, h.2.2.2.1, h.2.2.2.2.1, h.2.2.2.2.2.1, ⟨z_o1_le h.2.2.1 h.2.2.2.2.2.2.1 h.2.1.1, h.2.2.2.2.2.2.1.2⟩, h.2.2.2.2.2.2.2⟩
theorem zW_R2 {s : zS} (h : zW s) : zW (z_R2 s) := ⟨h.1, h.2.1, h.2.2.1, h.2.2.2.1, h.2.2.2.2.1, h.2.2.2.2.2.1, ⟨h.2.2.2.2.2.2.1.1, z_t1_in h.2.2.2.2.2.2.1, h.2.2.2.2.2.2.1.2.2⟩, h.2.2.2.2.2.2.2⟩
theorem zX_r0 {t : zS} {M1 : mm_M} {r : Nat} (h : zX t M1) : zX (z_r0 t r) (mm_si (mm_si M1 6 (upd (M1.1 6) 6 (nI r))) 6 (upd ((mm_si M1 6 (upd (M1.1 6) 6 (nI r))).1 6) 5 (nI 0))) := by
  obtain ⟨a, b, c, d, e, f, g, q⟩ := h
  exact ⟨a, b, c, d, e, f, ⟨g.1, g.2.1, g.2.2.1, rfl⟩, q⟩
theorem zX_rr0 {t : zS} {M1 : mm_M} {r : Nat} (h : zX t M1) : zX_r (z_r0 t r 12) (z_r0 t r 13) (z_r0 t r 14) r false (mm_si (mm_si M1 6 (upd (M1.1 6) 6 (nI r))) 6 (upd ((mm_si M1 6 (upd (M1.1 6) 6 (nI r))).1 6) 5 (nI 0))) :=
  ⟨h.2.2.2.2.2.2.1.1, h.2.2.2.2.2.2.1.2.1, h.2.2.2.2.2.2.1.2.2.1, rfl, rfl⟩

theorem zX_R1 {T : zS} {M M1 : mm_M} {b : Bool} (h : zX T M) (f : mm_same [6, 30, 31, 32, 33, 34] M M1) (x : zX_r (z_R1 T 12) (z_R1 T 13) (z_R1 T 14) (T 0 5) b M1) : zX (z_R1 T) M1 :=
  ⟨zX_p_c (f.at (by decide)) h.1, zX_l_c (f.at (by decide)) h.2.1, zX_k_c (f.at (by decide)) h.2.2.1, zX_w_c (f.at (by decide)) h.2.2.2.1, zX_t_c (f.at (by decide)) h.2.2.2.2.1, by
    show M1.2 0 0 = _
    rw [(f 0 (by decide)).2]; exact h.2.2.2.2.2.1, ⟨x.1, x.2.1, x.2.2.1, x.2.2.2.2⟩, zX_q_c (f.at (by decide)) h.2.2.2.2.2.2.2⟩

theorem zX_R2 {T : zS} {M M1 : mm_M} {b : Bool} (h : zX T M) (f : mm_same [6, 30, 31, 32, 33, 34] M M1) (x : zX_r (z_R2 T 12) (z_R2 T 13) (z_R2 T 14) (T 0 5) b M1) : zX (z_R2 T) M1 :=
  ⟨zX_p_c (f.at (by decide)) h.1, zX_l_c (f.at (by decide)) h.2.1, zX_k_c (f.at (by decide)) h.2.2.1, zX_w_c (f.at (by decide)) h.2.2.2.1, zX_t_c (f.at (by decide)) h.2.2.2.2.1, by
    show M1.2 0 0 = _
    rw [(f 0 (by decide)).2]; exact h.2.2.2.2.2.1, ⟨x.1, x.2.1, x.2.2.1, x.2.2.2.2⟩, zX_q_c (f.at (by decide)) h.2.2.2.2.2.2.2⟩

theorem zX_R3 {T : zS} {M M1 : mm_M} {b : Bool} (h : zX T M) (f : mm_same [6, 30, 31, 32, 33, 34] M M1) (x : zX_r (z_R3 T 12) (z_R3 T 13) (z_R3 T 14) (T 0 5) b M1) : zX (z_R3 T) M1 :=
  ⟨zX_p_c (f.at (by decide)) h.1, zX_l_c (f.at (by decide)) h.2.1, zX_k_c (f.at (by decide)) h.2.2.1, zX_w_c (f.at (by decide)) h.2.2.2.1, zX_t_c (f.at (by decide)) h.2.2.2.2.1, by
    show M1.2 0 0 = _
    rw [(f 0 (by decide)).2]; exact h.2.2.2.2.2.1, ⟨x.1, x.2.1, x.2.2.1, x.2.2.2.2⟩, zX_q_c (f.at (by decide)) h.2.2.2.2.2.2.2⟩

theorem zX_B {s : zS} {M M1 : mm_M} (h : zX s M) (f : mm_same [30, 31, 32] M M1) (a : ∀ j, j < 72 → M1.1 30 j = nI (z_o0 j)) (b : ∀ j, j < 96 → M1.1 31 j = nI (z_t0 j)) (c : ∀ j, j < 3 → M1.1 32 j = nI (z_y0 j)) : zX (z_B s) M1 :=
  ⟨zX_p_c (f.at (by decide)) h.1, zX_l_c (f.at (by decide)) h.2.1, zX_k_c (f.at (by decide)) h.2.2.1, zX_w_c (f.at (by decide)) h.2.2.2.1, zX_t_c (f.at (by decide)) h.2.2.2.2.1, by
    show M1.2 0 0 = _
    rw [(f 0 (by decide)).2]; exact h.2.2.2.2.2.1, ⟨a, b, c, by rw [(f 6 (by decide)).1]; exact h.2.2.2.2.2.2.1.2.2.2⟩, zX_q_c (f.at (by decide)) h.2.2.2.2.2.2.2⟩

set_option maxRecDepth 100000 in
theorem c_X6_settle {E : mm_E} (hI : mm_FX E) {M : mm_M} {s : zS} (hR : zX s M) (hW : zW s) : mm_Cal E mX6_settle [.ref (E.1 6), .ref (E.1 4), .ref (E.1 3)] M (fun v M' => v = some (.int (z_rk s).2) ∧ zX (z_rk s).1 M' ∧ mm_same [6, 30, 31, 32, 33, 34] M M') := by
  obtain ⟨Rp, Rl, Rk, Rw, Rt, Rd, Ro, Rq⟩ := hR
  obtain ⟨Wp, Wl, Wk, Ww, Wt, Wd, Wo, Wq⟩ := hW
  have hnp := Wp.1
  have hnl := Wl.1
  have hnk := Wk.1
  have hall : zX s M := ⟨Rp, Rl, Rk, Rw, Rt, Rd, Ro, Rq⟩
  have wall : zW s := ⟨Wp, Wl, Wk, Ww, Wt, Wd, Wo, Wq⟩
  refine jr_entry RX6 (by decide +kernel) (Nat.le_of_ble_eq_true rfl) (fun g hg => ?_)
  refine jr_lv (lv' := [(0, .ref (E.1 6)), (1, .ref (E.1 4)), (2, .ref (E.1 3))]) [0, 1, 2] rfl ?_
  refine jr_aload_n hg 0 rfl rfl dX6_settle_0 ?_
  refine jr_cV0p hg lk_X6_28 (hI 6 (by decide)) rfl rfl (by decide) (by decide) (Nat.le_of_ble_eq_true rfl) dX6_settle_1 (c_X6_begin (fun c hc => hI c (by revert hc; revert c; decide))) (fun r M' h => ?_)
  obtain ⟨rfl, b1, b2, b3, fB⟩ := h
  refine jr_st (show _ = [] from rfl) ?_
  have hXB : zX (z_B s) M' := zX_B hall fB b1 b2 b3
  refine jr_iconst hg (nI 1) dX6_settle_4 (by decide) ?_
  refine jr_istore_n hg dX6_settle_5 rfl (by decide) rfl ?_
  have lp6 : ∀ n : Nat, n ≤ 40 → ∀ (M1 : mm_M) (t : zS), zX t M1 → zW t → mm_same [6, 30, 31, 32, 33, 34] M M1 → z_se t n (40 - n) = z_rk s → mm_J g E mX6_settle (fun v M' => v = some (.int (z_rk s).2) ∧ zX (z_rk s).1 M' ∧ mm_same [6, 30, 31, 32, 33, 34] M M') 6 [(0, .ref (E.1 6)), (1, .ref (E.1 4)), (2, .ref (E.1 3)), (3, .int (nI ((n + 1))))] [] (M1) := by
    refine jr_up (S := fun n => ∀ (M1 : mm_M) (t : zS), zX t M1 → zW t → mm_same [6, 30, 31, 32, 33, 34] M M1 → z_se t n (40 - n) = z_rk s → mm_J g E mX6_settle (fun v M' => v = some (.int (z_rk s).2) ∧ zX (z_rk s).1 M' ∧ mm_same [6, 30, 31, 32, 33, 34] M M') 6 [(0, .ref (E.1 6)), (1, .ref (E.1 4)), (2, .ref (E.1 3)), (3, .int (nI ((n + 1))))] [] (M1)) (n := 40) ?_ ?_
    · intro M1 t hX hU hs hz
      show mm_J g E mX6_settle (fun v M' => v = some (.int (z_rk s).2) ∧ zX (z_rk s).1 M' ∧ mm_same [6, 30, 31, 32, 33, 34] M M') 6 [(0, .ref (E.1 6)), (1, .ref (E.1 4)), (2, .ref (E.1 3)), (3, .int (nI (((40) + 1))))] [] (M1)
      refine jr_iload_n hg 3 rfl rfl dX6_settle_6 ?_
      refine jr_bipush hg (nI 40) dX6_settle_7 (by decide) ?_
      refine jr_icmp_gtN (tgt := 56) hg dX6_settle_9 (by decide) (by omega) (by omega) (fun h9 => ?_) (fun h => by omega)
      refine jr_bipush hg (-41) dX6_settle_56 (by decide) ?_
      exact jr_iret hg rfl dX6_settle_58 (⟨by rw [← hz]; rfl, by rw [← hz]; exact hX, hs⟩)
    · intro n hn ih M1 t hX hU hs hz
      show mm_J g E mX6_settle (fun v M' => v = some (.int (z_rk s).2) ∧ zX (z_rk s).1 M' ∧ mm_same [6, 30, 31, 32, 33, 34] M M') 6 [(0, .ref (E.1 6)), (1, .ref (E.1 4)), (2, .ref (E.1 3)), (3, .int (nI ((n + 1))))] [] (M1)
      have hW0 := zW_r0 hU (r := n + 1) (by omega)
      refine jr_iload_n hg 3 rfl rfl dX6_settle_6 ?_
      refine jr_bipush hg (nI 40) dX6_settle_7 (by decide) ?_
      refine jr_icmp_gtN (tgt := 56) hg dX6_settle_9 (by decide) (by omega) (by omega) (fun h => by omega) (fun h9 => ?_)
      refine jr_aload_n hg 0 rfl rfl dX6_settle_12 ?_
      refine jr_iload_n hg 3 rfl rfl dX6_settle_13 ?_
      refine pf_X6_31 hg (hI 6 (by decide)) dX6_settle_14 ?_
      refine jr_aload_n hg 0 rfl rfl dX6_settle_17 ?_
      refine jr_iconst hg (nI 0) dX6_settle_18 (by decide) ?_
      refine pf_X6_53 hg (by first | exact Or.inl rfl | exact Or.inr rfl | exact z01 _) (hI 6 (by decide)) dX6_settle_19 ?_
      refine jr_aload_n hg 0 rfl rfl dX6_settle_22 ?_
      refine jr_aload_n hg 1 rfl rfl dX6_settle_23 ?_
      refine jr_aload_n hg 2 rfl rfl dX6_settle_24 ?_
      refine jr_cV2p hg lk_X6_57 (hI 6 (by decide)) rfl rfl (by decide) (by decide) (Nat.le_of_ble_eq_true rfl) dX6_settle_25 (c_X6_findOdds hI (zX_r0 hX) hW0 (zX_rr0 hX)) (fun r M' h => ?_)
      obtain ⟨rfl, x1, f1⟩ := h
      refine jr_st (show _ = [] from rfl) ?_
      have hX1 : zX (z_R1 (z_r0 t (n + 1))) M' := zX_R1 (zX_r0 hX) (f1.wk (by decide)) x1
      skip
      refine jr_aload_n hg 0 rfl rfl dX6_settle_28 ?_
      refine jr_aload_n hg 2 rfl rfl dX6_settle_29 ?_
      refine jr_cV1p hg lk_X6_61 (hI 6 (by decide)) rfl rfl (by decide) (by decide) (Nat.le_of_ble_eq_true rfl) dX6_settle_30 (c_X6_findTables hI hX1 (zW_R1 hW0) x1) (fun r M' h => ?_)
      obtain ⟨rfl, x2, f2⟩ := h
      refine jr_st (show _ = [] from rfl) ?_
      have hX2 : zX (z_R2 (z_R1 (z_r0 t (n + 1)))) M' := zX_R2 hX1 (f2.wk (by decide)) x2
      refine jr_aload_n hg 0 rfl rfl dX6_settle_33 ?_
      refine jr_aload_n hg 1 rfl rfl dX6_settle_34 ?_
      refine jr_cV0v hg lk_X6_65 (hI 4 (by decide)) rfl rfl (by decide) (by decide) (Nat.le_of_ble_eq_true rfl) dX6_settle_35 (c_X4_size hI hX2.1 hW0.1) ?_
      refine jr_cV1p hg lk_X6_71 (hI 6 (by decide)) rfl rfl (by decide) (by decide) (Nat.le_of_ble_eq_true rfl) dX6_settle_38 (c_X6_findSky hI hX2.2.2.2.2.2.2.1 (zW_R2 (zW_R1 hW0)).2.2.2.2.2.2.1 hW0.1 x2) (fun r M' h => ?_)
      obtain ⟨rfl, x3, f3⟩ := h
      refine jr_st (show _ = [] from rfl) ?_
      have hX3 : zX (z_rd t (n + 1)) M' := zX_R3 hX2 (f3.wk (by decide)) x3
      have hfl : M'.1 6 5 = nI (z_RF (z_r0 t (n + 1))).toNat := x3.2.2.2.1
      have hs3 : mm_same [6, 30, 31, 32, 33, 34] M M' := hs.tr (((mm_same.rf.si (by decide)).si (by decide) : mm_same [6, 30, 31, 32, 33, 34] M1 _).tr ((f1.wk (by decide)).tr ((f2.wk (by decide)).tr (f3.wk (by decide)))))
      refine jr_aload_n hg 0 rfl rfl dX6_settle_41 ?_
      refine gf_X6_53 hg (hI 6 (by decide)) dX6_settle_42 ?_
      refine jr_top (hfl) ?_
      refine jr_if_neZ (tgt := 50) hg dX6_settle_45 (by decide) (fun h45 => ?_) (fun h45 => ?_)
      · refine jr_iinc hg 3 rfl (nI (_ + 1)) (nI_1 _) dX6_settle_50 (by decide) rfl ?_
        refine jr_goto (tgt := 6) hg dX6_settle_53 (by decide) ?_
        exact jr_lv [1, 2, 3, 0] rfl (ih M' (z_rd t (n + 1)) hX3 (zW_rd hU (by omega)) hs3 (by rw [← hz, show 40 - n = (40 - (n + 1)) + 1 by omega, z_se, if_pos h45]))
      · have hzz : z_rk s = (z_rd t (n + 1), nI (n + 1)) := by rw [← hz, show 40 - n = (40 - (n + 1)) + 1 by omega, z_se, if_neg (by simp [h45])]
        refine jr_iload_n hg 3 rfl rfl dX6_settle_48 ?_
        exact jr_iret hg rfl dX6_settle_49 (⟨by rw [hzz], by rw [hzz]; exact hX3, hs3⟩)
  exact jr_lv [1, 2, 3, 0] rfl (lp6 0 (by omega) M' (z_B s) hXB (zW_B wall) (fB.wk (by decide)) rfl)
