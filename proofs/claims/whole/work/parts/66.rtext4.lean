theorem zR_fd {s : zS} {M M1 : mm_M} {n : Nat} {b : Int64} (h : zR s M) (f : mm_same [35, 38] M M1) (f2 : ∀ j, j ≠ 3 → M1.1 35 j = M.1 35 j) (t : zR_t (zfeed s n b) M1) : zR (zfeed s n b) M1 :=
  ⟨zR_p_c (f2 9 (by decide)) (f.at (by decide)) h.1, zR_l_c (f2 15 (by decide)) (f.at (by decide)) h.2.1, zR_k_c (f2 17 (by decide)) (f.at (by decide)) h.2.2.1, zR_w_c (f.at (by decide)) h.2.2.2.1, t, zR_d_c (f2 21 (by decide)) h.2.2.2.2.2.1, zR_o_c (f2 25 (by decide)) (f.at (by decide)) h.2.2.2.2.2.2.1, zR_q_c (f2 31 (by decide)) (f.at (by decide)) h.2.2.2.2.2.2.2⟩

set_option maxRecDepth 100000 in
theorem c_X8_feed {E : mm_E} (hI : mm_FR E) {M : mm_M} {s : zS} (hR : zR s M) (hW : zW s) (x : Int32) (b : Int64) : mm_Cal E mX8_feed [.ref (E.1 35), .int x, .long b] M (fun v M' => v = some (.int (zq_feed s x b).1) ∧ zR (zq_feed s x b).2 M') := by
  obtain ⟨Rp, Rl, Rk, Rw, Rt, Rd, Ro, Rq⟩ := hR
  obtain ⟨Wp, Wl, Wk, Ww, Wt, Wd, Wo, Wq⟩ := hW
  have hnp := Wp.1
  have hnl := Wl.1
  have hnk := Wk.1
  have rall : zR s M := ⟨Rp, Rl, Rk, Rw, Rt, Rd, Ro, Rq⟩
  have wall : zW s := ⟨Wp, Wl, Wk, Ww, Wt, Wd, Wo, Wq⟩
  have hn := Wt.1
  refine jr_entry RX8 (by decide +kernel) (Nat.le_of_ble_eq_true rfl) (fun g hg => ?_)
  refine jr_lv (lv' := [(0, .ref (E.1 35)), (1, .int x), (2, .long b)]) [0, 1, 2] rfl ?_
  refine jr_iload_n hg 1 rfl rfl dX8_feed_0 ?_
  refine jr_i2l hg _ dX8_feed_1 rfl ?_
  refine jr_lconst hg (lN 1) dX8_feed_2 (by decide) ?_
  refine jr_ldc2 hg wm_11_6 dX8_feed_3 ?_
  refine jr_topl (show (8 : Int64) = lN 8 by decide) ?_
  refine jr_cS3v hg lk_X8_100 (by decide) (by decide) (Nat.le_of_ble_eq_true rfl) dX8_feed_6 (c_X8_inW hI x rfl (by decide) (by decide)) ?_
  refine jr_if_neZ (tgt := 16) hg dX8_feed_9 (by decide) (fun h9 => ?_) (fun h9 => ?_)
  · obtain ⟨n, h1, h8, rfl⟩ := zwi_of (by decide) h9
    refine jr_aload_n hg 0 rfl rfl dX8_feed_16 ?_
    refine gf_X8_104 hg (hI 35 (by decide)) dX8_feed_17 ?_
    refine jr_top (Rt.1) ?_
    refine jr_iload_n hg 1 rfl rfl dX8_feed_20 ?_
    refine jr_iaddN hg dX8_feed_21 ?_
    refine jr_sipush hg (nI 160) dX8_feed_22 (by decide) ?_
    refine jr_icmp_leN (tgt := 32) hg dX8_feed_25 (by decide) (by omega) (by omega) (fun h25 => ?_) (fun h25 => ?_)
    · refine jr_iload_n hg 1 rfl rfl dX8_feed_32 ?_
      refine jr_iconst hg (nI 1) dX8_feed_33 (by decide) ?_
      refine jr_isub hg dX8_feed_34 ?_
      refine jr_top (zmv_sub1 _) ?_
      refine jr_istore hg dX8_feed_35 (by decide) rfl ?_
      have lp37 : ∀ k : Nat, ∀ M1, M1.1 35 3 = nI (s 0 4 + (n - k)) → (∀ j, j < s 0 4 + (n - k) → M1.1 38 j = nI (z_fd s n b j)) → M1.1 35 8 = zmv (s 0 7) → mm_same [35, 38] M M1 → (∀ j, j ≠ 3 → M1.1 35 j = M.1 35 j) → k ≤ n → mm_J g E mX8_feed (fun v M' => v = some (.int (zq_feed s (nI n) b).1) ∧ zR (zq_feed s (nI n) b).2 M') 37 [(0, .ref (E.1 35)), (2, .long b), (4, .int (zmv k))] [] (M1) := by
        refine jr_dn (S := fun k => ∀ M1, M1.1 35 3 = nI (s 0 4 + (n - k)) → (∀ j, j < s 0 4 + (n - k) → M1.1 38 j = nI (z_fd s n b j)) → M1.1 35 8 = zmv (s 0 7) → mm_same [35, 38] M M1 → (∀ j, j ≠ 3 → M1.1 35 j = M.1 35 j) → k ≤ n → mm_J g E mX8_feed (fun v M' => v = some (.int (zq_feed s (nI n) b).1) ∧ zR (zq_feed s (nI n) b).2 M') 37 [(0, .ref (E.1 35)), (2, .long b), (4, .int (zmv k))] [] (M1)) ?_ ?_
        · intro M1 hsz hby hfp hs hfl hk
          show mm_J g E mX8_feed (fun v M' => v = some (.int (zq_feed s (nI n) b).1) ∧ zR (zq_feed s (nI n) b).2 M') 37 [(0, .ref (E.1 35)), (2, .long b), (4, .int (zmv 0))] [] (M1)
          refine jr_iload hg 2 rfl dX8_feed_37 ?_
          refine jr_if_lt (tgt := 79) hg dX8_feed_39 (by decide) (fun h39 => ?_) (fun h => absurd zm1 h)
          refine jr_aload_n hg 0 rfl rfl dX8_feed_79 ?_
          refine gf_X8_104 hg (hI 35 (by decide)) dX8_feed_80 ?_
          refine jr_top (hsz) ?_
          exact jr_iret hg rfl dX8_feed_83 (zq_okR (by rw [zq_feed, if_pos h9, zn_nI (by omega), if_pos (by omega)]; rfl) (zR_fd rall hs hfl ⟨hsz, hby, hfp⟩))
        · intro k ih M1 hsz hby hfp hs hfl hk
          show mm_J g E mX8_feed (fun v M' => v = some (.int (zq_feed s (nI n) b).1) ∧ zR (zq_feed s (nI n) b).2 M') 37 [(0, .ref (E.1 35)), (2, .long b), (4, .int (nI k))] [] (M1)
          refine jr_iload hg 2 rfl dX8_feed_37 ?_
          refine jr_if_ltN hg dX8_feed_39 (tgt := 79) (by decide) (by omega) ?_
          refine jr_aload_n hg 0 rfl rfl dX8_feed_42 ?_
          refine gf_X8_16 hg (hI 35 (by decide)) dX8_feed_43 ?_
          refine jr_aload_n hg 0 rfl rfl dX8_feed_46 ?_
          refine gf_X8_104 hg (hI 35 (by decide)) dX8_feed_47 ?_
          refine jr_top (hsz) ?_
          refine jr_lload_n hg 1 rfl rfl dX8_feed_50 ?_
          refine jr_bipush hg (nI 8) dX8_feed_51 (by decide) ?_
          refine jr_iload hg 2 rfl dX8_feed_53 ?_
          refine jr_imulN hg dX8_feed_55 ?_
          refine jr_lshr hg _ dX8_feed_56 rfl ?_
          refine jr_ldc2 hg wm_11_8 dX8_feed_57 ?_
          refine jr_topl (show (255 : Int64) = lN 255 by decide) ?_
          refine jr_land hg dX8_feed_60 ?_
          refine jr_l2i hg _ dX8_feed_61 rfl ?_
          refine jr_top (z_bt_s b (show k < 8 by omega)) ?_
          refine jr_iastN hg (n := 160) (by omega) (by decide) (hI 38 (by decide)) (ac_38) dX8_feed_62 ?_
          refine jr_aload_n hg 0 rfl rfl dX8_feed_63 ?_
          refine jr_dup hg dX8_feed_64 rfl ?_
          refine gf_X8_104 hg (hI 35 (by decide)) dX8_feed_65 ?_
          refine jr_top (hsz) ?_
          refine jr_iconst hg (nI 1) dX8_feed_68 (by decide) ?_
          refine jr_iaddN hg dX8_feed_69 ?_
          refine pf_X8_104 hg (hI 35 (by decide)) dX8_feed_70 ?_
          refine jr_iinc hg 2 rfl (zmv k) (zmv_dec k) dX8_feed_73 (by decide) rfl ?_
          refine jr_goto (tgt := 37) hg dX8_feed_76 (by decide) ?_
          have e : s 0 4 + (n - (k + 1)) + 1 = s 0 4 + (n - k) := by omega
          refine jr_lv [1, 2, 0] rfl (ih _ (by rw [← e]; rfl) (fun j hj => ?_) hfp ((hs.si (by decide)).si (by decide)) (fun j hj => (upd_n hj).trans (hfl j hj)) (by omega))
          show upd (M1.1 38) (s 0 4 + (n - (k + 1))) _ j = _
          by_cases w : j = s 0 4 + (n - (k + 1))
          · rw [w, upd_s, z_fd_at (by omega)]
          · rw [upd_n w]; exact hby j (by omega)
      exact jr_lv [1, 3, 0] rfl (lp37 n M (by rw [Nat.sub_self]; exact Rt.1) (fun j hj => by rw [Nat.sub_self] at hj; rw [z_fd_o hj]; exact Rt.2.1 j hj) Rt.2.2 mm_same.rf (fun _ _ => rfl) (Nat.le_refl _))
    · refine jr_sipush hg (-1004) dX8_feed_28 (by decide) ?_
      exact jr_iret hg rfl dX8_feed_31 (zq_okR (by rw [zq_feed, if_pos h9, zn_nI (by omega), if_neg (by omega)]) rall)
  · refine jr_sipush hg (-1002) dX8_feed_12 (by decide) ?_
    exact jr_iret hg rfl dX8_feed_15 (zq_okR (by rw [zq_feed, if_neg (by rw [h9]; decide)]) rall)
