theorem zR_p_c {s : zS} {M M1 : mm_M} (g0 : M1.1 35 9 = M.1 35 9) (h : ∀ d, d ∈ [39, 40, 41, 42, 43] → M1.1 d = M.1 d) (q : zR_p s M) : zR_p s M1 := by
  simp only [zR_p, g0, h 39 (by decide), h 40 (by decide), h 41 (by decide), h 42 (by decide), h 43 (by decide)]
  exact q

theorem zR_l_c {s : zS} {M M1 : mm_M} (g0 : M1.1 35 15 = M.1 35 15) (h : ∀ d, d ∈ [44] → M1.1 d = M.1 d) (q : zR_l s M) : zR_l s M1 := by
  simp only [zR_l, g0, h 44 (by decide)]
  exact q

theorem zR_k_c {s : zS} {M M1 : mm_M} (g0 : M1.1 35 17 = M.1 35 17) (h : ∀ d, d ∈ [45, 46, 47] → M1.1 d = M.1 d) (q : zR_k s M) : zR_k s M1 := by
  simp only [zR_k, g0, h 45 (by decide), h 46 (by decide), h 47 (by decide)]
  exact q

theorem zR_w_c {s : zS} {M M1 : mm_M} (h : ∀ d, d ∈ [36] → M1.1 d = M.1 d) (q : zR_w s M) : zR_w s M1 := by
  simp only [zR_w, h 36 (by decide)]
  exact q

theorem zR_t_c {s : zS} {M M1 : mm_M} (g0 : M1.1 35 3 = M.1 35 3) (g1 : M1.1 35 8 = M.1 35 8) (h : ∀ d, d ∈ [38] → M1.1 d = M.1 d) (q : zR_t s M) : zR_t s M1 := by
  simp only [zR_t, g0, g1, h 38 (by decide)]
  exact q

theorem zR_d_c {s : zS} {M M1 : mm_M} (g0 : M1.1 35 21 = M.1 35 21) (q : zR_d s M) : zR_d s M1 := by
  simp only [zR_d, g0]
  exact q

theorem zR_o_c {s : zS} {M M1 : mm_M} (g0 : M1.1 35 25 = M.1 35 25) (h : ∀ d, d ∈ [48, 49, 50] → M1.1 d = M.1 d) (q : zR_o s M) : zR_o s M1 := by
  simp only [zR_o, g0, h 48 (by decide), h 49 (by decide), h 50 (by decide)]
  exact q

theorem zR_q_c {s : zS} {M M1 : mm_M} (g0 : M1.1 35 31 = M.1 35 31) (h : ∀ d, d ∈ [55, 56] → M1.1 d = M.1 d) (q : zR_q s M) : zR_q s M1 := by
  simp only [zR_q, g0, h 55 (by decide), h 56 (by decide)]
  exact q

theorem zR_thq {s : zS} {M M1 : mm_M} {n : Nat} (h : zR s M) (h35 : M1.1 35 = upd (M.1 35) 31 (nI n)) (a55 : ∀ t, t < 8 → M1.1 55 t = nI 1) (a56 : ∀ k, k < 6 → M1.1 56 k = nI 0) (hs : mm_same [35, 55, 56] M M1) : zR (zthings s n) M1 :=
  ⟨zR_p_c (by rw [h35]; rfl) (hs.at (by decide)) h.1, zR_l_c (by rw [h35]; rfl) (hs.at (by decide)) h.2.1, zR_k_c (by rw [h35]; rfl) (hs.at (by decide)) h.2.2.1, zR_w_c (hs.at (by decide)) h.2.2.2.1, zR_t_c (by rw [h35]; rfl) (by rw [h35]; rfl) (hs.at (by decide)) h.2.2.2.2.1, zR_d_c (by rw [h35]; rfl) h.2.2.2.2.2.1, zR_o_c (by rw [h35]; rfl) (hs.at (by decide)) h.2.2.2.2.2.2.1, ⟨by rw [h35]; rfl, a55, a56⟩⟩

set_option maxRecDepth 100000 in
theorem c_X8_things {E : mm_E} (hI : mm_FR E) {M : mm_M} {s : zS} (hR : zR s M) (hW : zW s) (x : Int32) : mm_Cal E mX8_things [.ref (E.1 35), .int x] M (fun v M' => v = some (.int (zq_things s x).1) ∧ zR (zq_things s x).2 M') := by
  obtain ⟨Rp, Rl, Rk, Rw, Rt, Rd, Ro, Rq⟩ := hR
  obtain ⟨Wp, Wl, Wk, Ww, Wt, Wd, Wo, Wq⟩ := hW
  have hnp := Wp.1
  have hnl := Wl.1
  have hnk := Wk.1
  have rall : zR s M := ⟨Rp, Rl, Rk, Rw, Rt, Rd, Ro, Rq⟩
  have wall : zW s := ⟨Wp, Wl, Wk, Ww, Wt, Wd, Wo, Wq⟩
  refine jr_entry RX8 (by decide +kernel) (Nat.le_of_ble_eq_true rfl) (fun g hg => ?_)
  refine jr_lv (lv' := [(0, .ref (E.1 35)), (1, .int x)]) [0, 1] rfl ?_
  refine jr_iload_n hg 1 rfl rfl dX8_things_0 ?_
  refine jr_i2l hg _ dX8_things_1 rfl ?_
  refine jr_ldc2 hg wm_8_0 dX8_things_2 ?_
  refine jr_topl (show (2 : Int64) = lN 2 by decide) ?_
  refine jr_ldc2 hg wm_11_6 dX8_things_5 ?_
  refine jr_topl (show (8 : Int64) = lN 8 by decide) ?_
  refine jr_cS3v hg lk_X8_100 (by decide) (by decide) (Nat.le_of_ble_eq_true rfl) dX8_things_8 (c_X8_inW hI x (lo := 2) (hi := 8) rfl (by decide) (by decide)) ?_
  refine jr_if_neZ (tgt := 18) hg dX8_things_11 (by decide) (fun h11 => ?_) (fun h11 => ?_)
  · obtain ⟨x1, hxa, hxb, rfl⟩ := zwi_of (by decide) h11
    refine jr_aload_n hg 0 rfl rfl dX8_things_18 ?_
    refine jr_iload_n hg 1 rfl rfl dX8_things_19 ?_
    refine pf_X8_95 hg (hI 35 (by decide)) dX8_things_20 ?_
    refine jr_iconst hg (nI 0) dX8_things_23 (by decide) ?_
    refine jr_istore_n hg dX8_things_24 rfl (by decide) rfl ?_
    have lp25 : ∀ t : Nat, t ≤ 8 → ∀ M1, M1.1 35 = upd (M.1 35) 31 (nI x1) → (∀ j, j < t → M1.1 55 j = nI 1) → mm_same [35, 55, 56] M M1 → mm_J g E mX8_things (fun v M' => v = some (.int (zq_things s (nI x1)).1) ∧ zR (zq_things s (nI x1)).2 M') 25 [(0, .ref (E.1 35)), (1, .int (nI x1)), (2, .int (nI t))] [] (M1) := by
      refine jr_up (S := fun t => ∀ M1, M1.1 35 = upd (M.1 35) 31 (nI x1) → (∀ j, j < t → M1.1 55 j = nI 1) → mm_same [35, 55, 56] M M1 → mm_J g E mX8_things (fun v M' => v = some (.int (zq_things s (nI x1)).1) ∧ zR (zq_things s (nI x1)).2 M') 25 [(0, .ref (E.1 35)), (1, .int (nI x1)), (2, .int (nI t))] [] (M1)) (n := 8) ?_ ?_
      · intro M1 h5 hw hs
        show mm_J g E mX8_things (fun v M' => v = some (.int (zq_things s (nI x1)).1) ∧ zR (zq_things s (nI x1)).2 M') 25 [(0, .ref (E.1 35)), (1, .int (nI x1)), (2, .int (nI (8)))] [] (M1)
        refine jr_iload_n hg 2 rfl rfl dX8_things_25 ?_
        refine jr_bipush hg (nI 8) dX8_things_26 (by decide) ?_
        refine jr_icmp_geN (tgt := 44) hg dX8_things_28 (by decide) (by omega) (by omega) (fun h28 => ?_) (fun h => by omega)
        refine jr_iconst hg (nI 0) dX8_things_44 (by decide) ?_
        refine jr_istore_n hg dX8_things_45 rfl (by decide) rfl ?_
        have lp46 : ∀ k : Nat, k ≤ 6 → ∀ M2, M2.1 35 = upd (M.1 35) 31 (nI x1) → (∀ j, j < 8 → M2.1 55 j = nI 1) → (∀ j, j < k → M2.1 56 j = nI 0) → mm_same [35, 55, 56] M M2 → mm_J g E mX8_things (fun v M' => v = some (.int (zq_things s (nI x1)).1) ∧ zR (zq_things s (nI x1)).2 M') 46 [(0, .ref (E.1 35)), (1, .int (nI x1)), (2, .int (nI k))] [] (M2) := by
          refine jr_up (S := fun k => ∀ M2, M2.1 35 = upd (M.1 35) 31 (nI x1) → (∀ j, j < 8 → M2.1 55 j = nI 1) → (∀ j, j < k → M2.1 56 j = nI 0) → mm_same [35, 55, 56] M M2 → mm_J g E mX8_things (fun v M' => v = some (.int (zq_things s (nI x1)).1) ∧ zR (zq_things s (nI x1)).2 M') 46 [(0, .ref (E.1 35)), (1, .int (nI x1)), (2, .int (nI k))] [] (M2)) (n := 6) ?_ ?_
          · intro M2 h5 hw hk2 hs
            show mm_J g E mX8_things (fun v M' => v = some (.int (zq_things s (nI x1)).1) ∧ zR (zq_things s (nI x1)).2 M') 46 [(0, .ref (E.1 35)), (1, .int (nI x1)), (2, .int (nI (6)))] [] (M2)
            refine jr_iload_n hg 2 rfl rfl dX8_things_46 ?_
            refine jr_bipush hg (nI 6) dX8_things_47 (by decide) ?_
            refine jr_icmp_geN (tgt := 65) hg dX8_things_49 (by decide) (by omega) (by omega) (fun h49 => ?_) (fun h => by omega)
            refine jr_iload_n hg 1 rfl rfl dX8_things_65 ?_
            exact jr_iret hg rfl dX8_things_66 (zq_okR (by rw [zq_things, if_pos h11, zn_nI (by omega)]) (zR_thq rall h5 hw hk2 hs))
          · intro k hk ih2 M2 h5 hw hk2 hs
            show mm_J g E mX8_things (fun v M' => v = some (.int (zq_things s (nI x1)).1) ∧ zR (zq_things s (nI x1)).2 M') 46 [(0, .ref (E.1 35)), (1, .int (nI x1)), (2, .int (nI k))] [] (M2)
            refine jr_iload_n hg 2 rfl rfl dX8_things_46 ?_
            refine jr_bipush hg (nI 6) dX8_things_47 (by decide) ?_
            refine jr_icmp_geN (tgt := 65) hg dX8_things_49 (by decide) (by omega) (by omega) (fun h => by omega) (fun h49 => ?_)
            refine jr_aload_n hg 0 rfl rfl dX8_things_52 ?_
            refine gf_X8_76 hg (hI 35 (by decide)) dX8_things_53 ?_
            refine jr_iload_n hg 2 rfl rfl dX8_things_56 ?_
            refine jr_iconst hg (nI 0) dX8_things_57 (by decide) ?_
            refine jr_iastN hg (n := 6) (by omega) (by decide) (hI 56 (by decide)) (ac_56) dX8_things_58 ?_
            refine jr_iinc hg 2 rfl (nI (_ + 1)) (nI_1 _) dX8_things_59 (by decide) rfl ?_
            refine jr_goto (tgt := 46) hg dX8_things_62 (by decide) ?_
            exact jr_lv [1, 2, 0] rfl (ih2 (mm_si M2 56 (upd (M2.1 56) k (nI 0))) h5 hw (fun j hj => by show upd (M2.1 56) k (nI 0) j = nI 0; by_cases e : j = k; rw [e, upd_s]; rw [upd_n e]; exact hk2 j (by omega)) (hs.si (by decide)))
        exact jr_lv [1, 2, 0] rfl (lp46 0 (by omega) M1 h5 hw (fun j hj => by omega) hs)
      · intro t ht ih M1 h5 hw hs
        show mm_J g E mX8_things (fun v M' => v = some (.int (zq_things s (nI x1)).1) ∧ zR (zq_things s (nI x1)).2 M') 25 [(0, .ref (E.1 35)), (1, .int (nI x1)), (2, .int (nI t))] [] (M1)
        refine jr_iload_n hg 2 rfl rfl dX8_things_25 ?_
        refine jr_bipush hg (nI 8) dX8_things_26 (by decide) ?_
        refine jr_icmp_geN (tgt := 44) hg dX8_things_28 (by decide) (by omega) (by omega) (fun h => by omega) (fun h28 => ?_)
        refine jr_aload_n hg 0 rfl rfl dX8_things_31 ?_
        refine gf_X8_73 hg (hI 35 (by decide)) dX8_things_32 ?_
        refine jr_iload_n hg 2 rfl rfl dX8_things_35 ?_
        refine jr_iconst hg (nI 1) dX8_things_36 (by decide) ?_
        refine jr_iastN hg (n := 8) (by omega) (by decide) (hI 55 (by decide)) (ac_55) dX8_things_37 ?_
        refine jr_iinc hg 2 rfl (nI (_ + 1)) (nI_1 _) dX8_things_38 (by decide) rfl ?_
        refine jr_goto (tgt := 25) hg dX8_things_41 (by decide) ?_
        exact jr_lv [1, 2, 0] rfl (ih (mm_si M1 55 (upd (M1.1 55) t (nI 1))) h5 (fun j hj => by show upd (M1.1 55) t (nI 1) j = nI 1; by_cases e : j = t; rw [e, upd_s]; rw [upd_n e]; exact hw j (by omega)) (hs.si (by decide)))
    exact jr_lv [1, 2, 0] rfl (lp25 0 (by omega) _ rfl (fun j hj => by omega) (mm_same.rf.si (by decide)))
  · refine jr_sipush hg (-1002) dX8_things_14 (by decide) ?_
    exact jr_iret hg rfl dX8_things_17 (zq_okR (if_neg (by rw [h11]; simp)) rall)

set_option maxRecDepth 100000 in
theorem c_X8_weight {E : mm_E} (hI : mm_FR E) {M : mm_M} {s : zS} (hR : zR s M) (hW : zW s) (t w : Int32) : mm_Cal E mX8_weight [.ref (E.1 35), .int t, .int w] M (fun v M' => v = some (.int (zq_weight s t w).1) ∧ zR (zq_weight s t w).2 M') := by
  obtain ⟨Rp, Rl, Rk, Rw, Rt, Rd, Ro, Rq⟩ := hR
  obtain ⟨Wp, Wl, Wk, Ww, Wt, Wd, Wo, Wq⟩ := hW
  have hnp := Wp.1
  have hnl := Wl.1
  have hnk := Wk.1
  have rall : zR s M := ⟨Rp, Rl, Rk, Rw, Rt, Rd, Ro, Rq⟩
  have wall : zW s := ⟨Wp, Wl, Wk, Ww, Wt, Wd, Wo, Wq⟩
  have h86q := Wq.2.1
  refine jr_entry RX8 (by decide +kernel) (Nat.le_of_ble_eq_true rfl) (fun g hg => ?_)
  refine jr_lv (lv' := [(0, .ref (E.1 35)), (1, .int t), (2, .int w)]) [0, 1, 2] rfl ?_
  refine jr_iload_n hg 1 rfl rfl dX8_weight_0 ?_
  refine jr_i2l hg _ dX8_weight_1 rfl ?_
  refine jr_lconst hg (lN 0) dX8_weight_2 (by decide) ?_
  refine jr_aload_n hg 0 rfl rfl dX8_weight_3 ?_
  refine gf_X8_95 hg (hI 35 (by decide)) dX8_weight_4 ?_
  refine jr_top (Rq.1) ?_
  refine jr_iconst hg (nI 1) dX8_weight_7 (by decide) ?_
  refine jr_isub hg dX8_weight_8 ?_
  refine jr_i2l hg _ dX8_weight_9 rfl ?_
  refine jr_cS3v hg lk_X8_100 (by decide) (by decide) (Nat.le_of_ble_eq_true rfl) dX8_weight_10 (c_X8_inM hI t rfl (by omega)) ?_
  refine jr_if_eqZ (tgt := 28) hg dX8_weight_13 (by decide) (fun h13 => ?_) (fun h13 => ?_)
  · refine jr_sipush hg (-1002) dX8_weight_28 (by decide) ?_
    exact jr_iret hg rfl dX8_weight_31 (zq_okR (if_neg (by rw [h13]; simp)) rall)
  · refine jr_iload_n hg 2 rfl rfl dX8_weight_16 ?_
    refine jr_i2l hg _ dX8_weight_17 rfl ?_
    refine jr_lconst hg (lN 1) dX8_weight_18 (by decide) ?_
    refine jr_ldc2 hg wm_42_23 dX8_weight_19 ?_
    refine jr_topl (show (99 : Int64) = lN 99 by decide) ?_
    refine jr_cS3v hg lk_X8_100 (by decide) (by decide) (Nat.le_of_ble_eq_true rfl) dX8_weight_22 (c_X8_inW hI w (lo := 1) (hi := 99) rfl (by decide) (by decide)) ?_
    refine jr_if_neZ (tgt := 32) hg dX8_weight_25 (by decide) (fun h25 => ?_) (fun h25 => ?_)
    · have h86 := Wq.2.1
      obtain ⟨t1, ht, rfl⟩ := zin_of (by omega) h13
      obtain ⟨v1, hv1, hv2, rfl⟩ := zwi_of (by decide) h25
      have hx : zR (zset s 15 (zup (s 15) t1 v1)) (mm_si M 55 (upd (M.1 55) t1 (nI v1))) := ⟨Rp, Rl, Rk, Rw, Rt, Rd, Ro, ⟨Rq.1, zrow_up Rq.2.1, Rq.2.2⟩⟩
      refine jr_aload_n hg 0 rfl rfl dX8_weight_32 ?_
      refine gf_X8_73 hg (hI 35 (by decide)) dX8_weight_33 ?_
      refine jr_iload_n hg 1 rfl rfl dX8_weight_36 ?_
      refine jr_ialdN hg (n := 8) (by omega) (by decide) (hI 55 (by decide)) (ac_55 _ _) dX8_weight_37 ?_
      refine jr_top (Rq.2.1 _ (by omega)) ?_
      refine jr_istore_n hg dX8_weight_38 rfl (by decide) rfl ?_
      refine jr_aload_n hg 1 rfl rfl dX8_weight_39 ?_
      refine gf_X8_73 hg (hI 35 (by decide)) dX8_weight_40 ?_
      refine jr_iload_n hg 2 rfl rfl dX8_weight_43 ?_
      refine jr_iload_n hg 3 rfl rfl dX8_weight_44 ?_
      refine jr_iastN hg (n := 8) (by omega) (by decide) (hI 55 (by decide)) (ac_55) dX8_weight_45 ?_
      refine jr_iload_n hg 0 rfl rfl dX8_weight_46 ?_
      exact jr_iret hg rfl dX8_weight_47 (zq_okR (by rw [zq_weight, if_pos (by rw [h13, h25]; rfl), zn_nI (by omega), zn_nI (by omega)]) hx)
    · refine jr_sipush hg (-1002) dX8_weight_28 (by decide) ?_
      exact jr_iret hg rfl dX8_weight_31 (zq_okR (if_neg (by rw [h13, h25]; simp)) rall)

set_option maxRecDepth 100000 in
theorem c_X8_question {E : mm_E} (hI : mm_FR E) {M : mm_M} {s : zS} (hR : zR s M) (hW : zW s) (k S : Int32) : mm_Cal E mX8_question [.ref (E.1 35), .int k, .int S] M (fun v M' => v = some (.int (zq_question s k S).1) ∧ zR (zq_question s k S).2 M') := by
  obtain ⟨Rp, Rl, Rk, Rw, Rt, Rd, Ro, Rq⟩ := hR
  obtain ⟨Wp, Wl, Wk, Ww, Wt, Wd, Wo, Wq⟩ := hW
  have hnp := Wp.1
  have hnl := Wl.1
  have hnk := Wk.1
  have rall : zR s M := ⟨Rp, Rl, Rk, Rw, Rt, Rd, Ro, Rq⟩
  have wall : zW s := ⟨Wp, Wl, Wk, Ww, Wt, Wd, Wo, Wq⟩
  have h86q := Wq.2.1
  have h87q := zpow8 Wq.2.1
  refine jr_entry RX8 (by decide +kernel) (Nat.le_of_ble_eq_true rfl) (fun g hg => ?_)
  refine jr_lv (lv' := [(0, .ref (E.1 35)), (1, .int k), (2, .int S)]) [0, 1, 2] rfl ?_
  refine jr_iload_n hg 1 rfl rfl dX8_question_0 ?_
  refine jr_i2l hg _ dX8_question_1 rfl ?_
  refine jr_lconst hg (lN 0) dX8_question_2 (by decide) ?_
  refine jr_ldc2 hg wm_10_14 dX8_question_3 ?_
  refine jr_topl (show (5 : Int64) = lN 5 by decide) ?_
  refine jr_cS3v hg lk_X8_100 (by decide) (by decide) (Nat.le_of_ble_eq_true rfl) dX8_question_6 (c_X8_in0 hI k rfl (by decide)) ?_
  refine jr_if_eqZ (tgt := 30) hg dX8_question_9 (by decide) (fun h9 => ?_) (fun h9 => ?_)
  · refine jr_sipush hg (-1002) dX8_question_30 (by decide) ?_
    exact jr_iret hg rfl dX8_question_33 (zq_okR (if_neg (by rw [h9]; simp)) rall)
  · refine jr_iload_n hg 2 rfl rfl dX8_question_12 ?_
    refine jr_i2l hg _ dX8_question_13 rfl ?_
    refine jr_lconst hg (lN 0) dX8_question_14 (by decide) ?_
    refine jr_iconst hg (nI 1) dX8_question_15 (by decide) ?_
    refine jr_aload_n hg 0 rfl rfl dX8_question_16 ?_
    refine gf_X8_95 hg (hI 35 (by decide)) dX8_question_17 ?_
    refine jr_top (Rq.1) ?_
    refine jr_ishl hg dX8_question_20 ?_
    refine jr_top (nI_shl1 (by omega)) ?_
    refine jr_iconst hg (nI 1) dX8_question_21 (by decide) ?_
    refine jr_isub hg dX8_question_22 ?_
    refine jr_i2l hg _ dX8_question_23 rfl ?_
    refine jr_cS3v hg lk_X8_100 (by decide) (by decide) (Nat.le_of_ble_eq_true rfl) dX8_question_24 (c_X8_inM hI S rfl (by omega)) ?_
    refine jr_if_neZ (tgt := 34) hg dX8_question_27 (by decide) (fun h27 => ?_) (fun h27 => ?_)
    · have h86 := zpow8 Wq.2.1
      obtain ⟨k1, hk, rfl⟩ := zin_of (by decide) h9
      obtain ⟨S1, hS, rfl⟩ := zin_of (by omega) h27
      have hx : zR (zset s 16 (zup (s 16) k1 S1)) (mm_si M 56 (upd (M.1 56) k1 (nI S1))) := ⟨Rp, Rl, Rk, Rw, Rt, Rd, Ro, ⟨Rq.1, Rq.2.1, zrow_up Rq.2.2⟩⟩
      refine jr_aload_n hg 0 rfl rfl dX8_question_34 ?_
      refine gf_X8_76 hg (hI 35 (by decide)) dX8_question_35 ?_
      refine jr_iload_n hg 1 rfl rfl dX8_question_38 ?_
      refine jr_ialdN hg (n := 6) (by omega) (by decide) (hI 56 (by decide)) (ac_56 _ _) dX8_question_39 ?_
      refine jr_top (Rq.2.2 _ (by omega)) ?_
      refine jr_istore_n hg dX8_question_40 rfl (by decide) rfl ?_
      refine jr_aload_n hg 1 rfl rfl dX8_question_41 ?_
      refine gf_X8_76 hg (hI 35 (by decide)) dX8_question_42 ?_
      refine jr_iload_n hg 2 rfl rfl dX8_question_45 ?_
      refine jr_iload_n hg 3 rfl rfl dX8_question_46 ?_
      refine jr_iastN hg (n := 6) (by omega) (by decide) (hI 56 (by decide)) (ac_56) dX8_question_47 ?_
      refine jr_iload_n hg 0 rfl rfl dX8_question_48 ?_
      exact jr_iret hg rfl dX8_question_49 (zq_okR (by rw [zq_question, if_pos (by rw [h9, h27]; rfl), zn_nI (by omega), zn_nI (by omega)]) hx)
    · refine jr_sipush hg (-1002) dX8_question_30 (by decide) ?_
      exact jr_iret hg rfl dX8_question_33 (zq_okR (if_neg (by rw [h9, h27]; simp)) rall)

theorem z_ws_n {w : Nat → Nat} {S n : Nat} (h : S < 2 ^ n) : ∀ m, n ≤ m → z_ws w S m = z_ws w S n := by
  intro m hm
  induction m with
  | zero => have e : n = 0 := by omega
            rw [e]
  | succ m ih =>
    rcases Nat.lt_or_ge n (m + 1) with q | q
    · have b : S.testBit m = false := Nat.testBit_lt_two_pow (Nat.lt_of_lt_of_le h (Nat.pow_le_pow_right (by decide) (show n ≤ m by omega)))
      rw [z_ws, b, ih (by omega)]; simp
    · have e : n = m + 1 := by omega
      rw [e]
def zR_pl (s : zS) (n : Nat) (M : mm_M) : Prop := ∀ S, 1 ≤ S → S < n → M.1 57 S = nI (z_e (s 15) (s 16) S).1 ∧ M.1 58 S = zmv (z_e (s 15) (s 16) S).2.1 ∧ M.1 59 S = nI (z_e (s 15) (s 16) S).2.2
def z_bb (s : zS) (S k : Nat) : Nat := if (z_be (s 16) (z_ak (s 15) (s 16)) S k).1 = 0 then 1000000000 else (z_be (s 16) (z_ak (s 15) (s 16)) S k).2
def z_dp (s : zS) (S k : Nat) : Nat := if (z_be (s 16) (z_ak (s 15) (s 16)) S k).1 = 0 then 0 else 1 + max (z_e (s 15) (s 16) (S &&& s 16 ((z_be (s 16) (z_ak (s 15) (s 16)) S k).1 - 1))).2.2 (z_e (s 15) (s 16) (z_no S (s 16 ((z_be (s 16) (z_ak (s 15) (s 16)) S k).1 - 1)))).2.2

set_option maxRecDepth 100000 in
theorem c_X8_weightOf {E : mm_E} (hI : mm_FR E) {M : mm_M} {s : zS} (Rq : zR_q s M) (Wq : zW_q s) {S : Nat} (hS : S < 2 ^ s 0 6) : mm_Cal E mX8_weightOf [.ref (E.1 35), .int (nI S)] M (ret1 (.int (nI (z_ws (s 15) S 8))) M) := by
  have hn2 := Wq.1
  have hn8 := Wq.2.1
  have hpw := zpow8 hn8
  have hq := zW_q256 Wq
  have hw : ∀ t, t < 8 → s 15 t ≤ 99 := fun t ht => (Wq.2.2.1 t ht).2
  refine jr_entry RX8 (by decide +kernel) (Nat.le_of_ble_eq_true rfl) (fun g hg => ?_)
  refine jr_lv (lv' := [(0, .ref (E.1 35)), (1, .int (nI S))]) [0, 1] rfl ?_
  refine jr_iconst hg (nI 0) dX8_weightOf_0 (by decide) ?_
  refine jr_istore_n hg dX8_weightOf_1 rfl (by decide) rfl ?_
  refine jr_iconst hg (nI 0) dX8_weightOf_2 (by decide) ?_
  refine jr_istore_n hg dX8_weightOf_3 rfl (by decide) rfl ?_
  have lp4 : ∀ t : Nat, t ≤ s 0 6 →  mm_J g E mX8_weightOf (ret1 (.int (nI (z_ws (s 15) S 8))) M) 4 [(0, .ref (E.1 35)), (1, .int (nI S)), (2, .int (nI (z_ws (s 15) S t))), (3, .int (nI t))] [] (M) := by
    refine jr_up (S := fun t =>  mm_J g E mX8_weightOf (ret1 (.int (nI (z_ws (s 15) S 8))) M) 4 [(0, .ref (E.1 35)), (1, .int (nI S)), (2, .int (nI (z_ws (s 15) S t))), (3, .int (nI t))] [] (M)) (n := s 0 6) ?_ ?_
    · show mm_J g E mX8_weightOf (ret1 (.int (nI (z_ws (s 15) S 8))) M) 4 [(0, .ref (E.1 35)), (1, .int (nI S)), (2, .int (nI (z_ws (s 15) S (s 0 6)))), (3, .int (nI (s 0 6)))] [] (M)
      refine jr_iload_n hg 3 rfl rfl dX8_weightOf_4 ?_
      refine jr_aload_n hg 0 rfl rfl dX8_weightOf_5 ?_
      refine gf_X8_95 hg (hI 35 (by decide)) dX8_weightOf_6 ?_
      refine jr_top (Rq.1) ?_
      refine jr_icmp_geN (tgt := 33) hg dX8_weightOf_9 (by decide) (by omega) (by omega) (fun h9 => ?_) (fun h => by omega)
      refine jr_iload_n hg 2 rfl rfl dX8_weightOf_33 ?_
      exact jr_iret hg rfl dX8_weightOf_34 (⟨by rw [z_ws_n hS 8 hn8], rfl⟩)
    · intro t ht ih 
      show mm_J g E mX8_weightOf (ret1 (.int (nI (z_ws (s 15) S 8))) M) 4 [(0, .ref (E.1 35)), (1, .int (nI S)), (2, .int (nI (z_ws (s 15) S t))), (3, .int (nI t))] [] (M)
      refine jr_iload_n hg 3 rfl rfl dX8_weightOf_4 ?_
      refine jr_aload_n hg 0 rfl rfl dX8_weightOf_5 ?_
      refine gf_X8_95 hg (hI 35 (by decide)) dX8_weightOf_6 ?_
      refine jr_top (Rq.1) ?_
      refine jr_icmp_geN (tgt := 33) hg dX8_weightOf_9 (by decide) (by omega) (by omega) (fun h => by omega) (fun h9 => ?_)
      refine jr_iload_n hg 2 rfl rfl dX8_weightOf_12 ?_
      refine jr_iload_n hg 1 rfl rfl dX8_weightOf_13 ?_
      refine jr_iload_n hg 3 rfl rfl dX8_weightOf_14 ?_
      refine jr_ishr hg dX8_weightOf_15 ?_
      refine jr_top (nI_shr (by omega) (by omega)) ?_
      refine jr_iconst hg (nI 1) dX8_weightOf_16 (by decide) ?_
      refine jr_iand hg dX8_weightOf_17 ?_
      refine jr_top (nI_and1 (Nat.lt_of_le_of_lt (Nat.div_le_self _ _) (by omega))) ?_
      refine jr_aload_n hg 0 rfl rfl dX8_weightOf_18 ?_
      refine gf_X8_73 hg (hI 35 (by decide)) dX8_weightOf_19 ?_
      refine jr_iload_n hg 3 rfl rfl dX8_weightOf_22 ?_
      refine jr_ialdN hg (n := 8) (by omega) (by decide) (hI 55 (by decide)) (ac_55 _ _) dX8_weightOf_23 ?_
      refine jr_top (Rq.2.1 _ (by omega)) ?_
      refine jr_imulN hg dX8_weightOf_24 ?_
      refine jr_iaddN hg dX8_weightOf_25 ?_
      refine jr_istore_n hg dX8_weightOf_26 rfl (by decide) rfl ?_
      refine jr_iinc hg 3 rfl (nI (_ + 1)) (nI_1 _) dX8_weightOf_27 (by decide) rfl ?_
      refine jr_goto (tgt := 4) hg dX8_weightOf_30 (by decide) ?_
      have e : z_ws (s 15) S (t + 1) = z_ws (s 15) S t + S / 2 ^ t % 2 * s 15 t := by
        rw [z_ws, zbit]
        rcases (show S / 2 ^ t % 2 = 0 ∨ S / 2 ^ t % 2 = 1 by omega) with q | q <;> rw [q] <;> simp
      rw [e] at ih
      exact jr_lv [2, 3, 1, 0] rfl ih
  exact jr_lv [2, 3, 1, 0] rfl (lp4 0 (by omega))

theorem zR_pl_u {s : zS} {S : Nat} {M : mm_M} {x y : Int32} (h : zR_pl s S M) : zR_pl s S (mm_si (mm_si M 58 (upd (M.1 58) S x)) 59 (upd (M.1 59) S y)) := by
  intro T h1 h2
  show M.1 57 T = _ ∧ upd (M.1 58) S x T = _ ∧ upd (M.1 59) S y T = _
  rw [upd_n (by omega), upd_n (by omega)]; exact h T h1 h2
theorem zR_pl_3 {s : zS} {S : Nat} {M : mm_M} {x y z : Int32} (h : zR_pl s S M) : zR_pl s S (mm_si (mm_si (mm_si M 57 (upd (M.1 57) S x)) 58 (upd (M.1 58) S y)) 59 (upd (M.1 59) S z)) := by
  intro T h1 h2
  show upd (M.1 57) S x T = _ ∧ upd (M.1 58) S y T = _ ∧ upd (M.1 59) S z T = _
  rw [upd_n (by omega), upd_n (by omega), upd_n (by omega)]; exact h T h1 h2
theorem zR_pl_a {s : zS} {S : Nat} {M : mm_M} {x : Int32} (h : zR_pl s S M) (h58 : M.1 58 S = zmv (z_e (s 15) (s 16) S).2.1) (h59 : M.1 59 S = nI (z_e (s 15) (s 16) S).2.2) (hx : x = nI (z_e (s 15) (s 16) S).1) : zR_pl s (S + 1) (mm_si M 57 (upd (M.1 57) S x)) := by
  intro T h1 h2
  show upd (M.1 57) S x T = _ ∧ M.1 58 T = _ ∧ M.1 59 T = _
  by_cases e : T = S
  · rw [e, upd_s]; exact ⟨hx, h58, h59⟩
  · rw [upd_n e]; exact h T h1 (by omega)
theorem z_e_dp {s : zS} (hq : ∀ k, k < 6 → s 16 k < 256) {S : Nat} (hS : S < 256) : (z_e (s 15) (s 16) S).2.1 = (z_be (s 16) (z_ak (s 15) (s 16)) S 6).1 ∧ (z_e (s 15) (s 16) S).2.2 = z_dp s S 6 ∧ (z_e (s 15) (s 16) S).1 = if (z_be (s 16) (z_ak (s 15) (s 16)) S 6).1 = 0 then 0 else z_ws (s 15) S 8 + z_bb s S 6 := by
  rw [z_e_eq hS hq, z_dp, z_bb]
  by_cases c : (z_be (s 16) (z_ak (s 15) (s 16)) S 6).1 = 0
  · rw [if_pos c, if_pos c, if_pos c]; exact ⟨c.symm, rfl, rfl⟩
  · rw [if_neg c, if_neg c, if_neg c, if_neg c]; exact ⟨rfl, rfl, rfl⟩

set_option maxRecDepth 100000 in
theorem c_X8_findTrees {E : mm_E} (hI : mm_FR E) {M : mm_M} {s : zS} (Rq : zR_q s M) (Wq : zW_q s) : mm_Cal E mX8_findTrees [.ref (E.1 35)] M (fun v M' => v = none ∧ zR_pl s (2 ^ s 0 6) M' ∧ mm_same [57, 58, 59] M M') := by
  have hn2 := Wq.1
  have hn8 := Wq.2.1
  have hpw := zpow8 hn8
  have hq := zW_q256 Wq
  have hw : ∀ t, t < 8 → s 15 t ≤ 99 := fun t ht => (Wq.2.2.1 t ht).2
  have hp1 := Nat.two_pow_pos (s 0 6)
  refine jr_entry RX8 (by decide +kernel) (Nat.le_of_ble_eq_true rfl) (fun g hg => ?_)
  refine jr_lv (lv' := [(0, .ref (E.1 35))]) [0] rfl ?_
  refine jr_iconst hg (nI 1) dX8_findTrees_0 (by decide) ?_
  refine jr_istore_n hg dX8_findTrees_1 rfl (by decide) rfl ?_
  have lp2 : ∀ S : Nat, S ≤ 2 ^ s 0 6 - 1 → ∀ M1, zR_pl s (S + 1) M1 → mm_same [57, 58, 59] M M1 → mm_J g E mX8_findTrees (fun v M' => v = none ∧ zR_pl s (2 ^ s 0 6) M' ∧ mm_same [57, 58, 59] M M') 2 [(0, .ref (E.1 35)), (1, .int (nI ((S + 1))))] [] (M1) := by
    refine jr_up (S := fun S => ∀ M1, zR_pl s (S + 1) M1 → mm_same [57, 58, 59] M M1 → mm_J g E mX8_findTrees (fun v M' => v = none ∧ zR_pl s (2 ^ s 0 6) M' ∧ mm_same [57, 58, 59] M M') 2 [(0, .ref (E.1 35)), (1, .int (nI ((S + 1))))] [] (M1)) (n := 2 ^ s 0 6 - 1) ?_ ?_
    · intro M1 hP hs
      show mm_J g E mX8_findTrees (fun v M' => v = none ∧ zR_pl s (2 ^ s 0 6) M' ∧ mm_same [57, 58, 59] M M') 2 [(0, .ref (E.1 35)), (1, .int (nI (((2 ^ s 0 6 - 1) + 1))))] [] (M1)
      have Rq1 : M1.1 35 31 = nI (s 0 6) := by rw [(hs 35 (by decide)).1]; exact Rq.1
      refine jr_iload_n hg 1 rfl rfl dX8_findTrees_2 ?_
      refine jr_iconst hg (nI 1) dX8_findTrees_3 (by decide) ?_
      refine jr_aload_n hg 0 rfl rfl dX8_findTrees_4 ?_
      refine gf_X8_95 hg (hI 35 (by decide)) dX8_findTrees_5 ?_
      refine jr_top (Rq1) ?_
      refine jr_ishl hg dX8_findTrees_8 ?_
      refine jr_top (nI_shl1 (by omega)) ?_
      refine jr_icmp_geN (tgt := 199) hg dX8_findTrees_9 (by decide) (by omega) (by omega) (fun h9 => ?_) (fun h => by omega)
      exact jr_vret hg rfl dX8_findTrees_199 (⟨rfl, fun T a b => hP T a (by omega), hs⟩)
    · intro S hS ih M1 hP hs
      show mm_J g E mX8_findTrees (fun v M' => v = none ∧ zR_pl s (2 ^ s 0 6) M' ∧ mm_same [57, 58, 59] M M') 2 [(0, .ref (E.1 35)), (1, .int (nI ((S + 1))))] [] (M1)
      have Rq1 : M1.1 35 31 = nI (s 0 6) := by rw [(hs 35 (by decide)).1]; exact Rq.1
      have hS6 : S + 1 < 2 ^ s 0 6 := by omega
      refine jr_iload_n hg 1 rfl rfl dX8_findTrees_2 ?_
      refine jr_iconst hg (nI 1) dX8_findTrees_3 (by decide) ?_
      refine jr_aload_n hg 0 rfl rfl dX8_findTrees_4 ?_
      refine gf_X8_95 hg (hI 35 (by decide)) dX8_findTrees_5 ?_
      refine jr_top (Rq1) ?_
      refine jr_ishl hg dX8_findTrees_8 ?_
      refine jr_top (nI_shl1 (by omega)) ?_
      refine jr_icmp_geN (tgt := 199) hg dX8_findTrees_9 (by decide) (by omega) (by omega) (fun h => by omega) (fun h9 => ?_)
      refine jr_aload_n hg 0 rfl rfl dX8_findTrees_12 ?_
      refine gf_X8_79 hg (hI 35 (by decide)) dX8_findTrees_13 ?_
      refine jr_iload_n hg 1 rfl rfl dX8_findTrees_16 ?_
      refine jr_iconst hg (nI 0) dX8_findTrees_17 (by decide) ?_
      refine jr_iastN hg (n := 256) (by omega) (by decide) (hI 57 (by decide)) (ac_57) dX8_findTrees_18 ?_
      refine jr_aload_n hg 0 rfl rfl dX8_findTrees_19 ?_
      refine gf_X8_82 hg (hI 35 (by decide)) dX8_findTrees_20 ?_
      refine jr_iload_n hg 1 rfl rfl dX8_findTrees_23 ?_
      refine jr_iconst hg (-1) dX8_findTrees_24 (by decide) ?_
      refine jr_iastN hg (n := 256) (by omega) (by decide) (hI 58 (by decide)) (ac_58) dX8_findTrees_25 ?_
      refine jr_aload_n hg 0 rfl rfl dX8_findTrees_26 ?_
      refine gf_X8_85 hg (hI 35 (by decide)) dX8_findTrees_27 ?_
      refine jr_iload_n hg 1 rfl rfl dX8_findTrees_30 ?_
      refine jr_iconst hg (nI 0) dX8_findTrees_31 (by decide) ?_
      refine jr_iastN hg (n := 256) (by omega) (by decide) (hI 59 (by decide)) (ac_59) dX8_findTrees_32 ?_
      refine jr_ldcw hg wm_46_4 dX8_findTrees_33 ?_
      refine jr_top (show (1000000000 : Int32) = nI 1000000000 by decide) ?_
      refine jr_istore_n hg dX8_findTrees_36 rfl (by decide) rfl ?_
      refine jr_iconst hg (nI 0) dX8_findTrees_37 (by decide) ?_
      refine jr_istore_n hg dX8_findTrees_38 rfl (by decide) rfl ?_
      have lp39 : ∀ k : Nat, k ≤ 6 → ∀ M2, zR_pl s (S + 1) M2 → M2.1 58 (S + 1) = zmv (z_be (s 16) (z_ak (s 15) (s 16)) (S + 1) k).1 → M2.1 59 (S + 1) = nI (z_dp s (S + 1) k) → mm_same [57, 58, 59] M M2 → mm_J g E mX8_findTrees (fun v M' => v = none ∧ zR_pl s (2 ^ s 0 6) M' ∧ mm_same [57, 58, 59] M M') 39 [(0, .ref (E.1 35)), (1, .int (nI ((S + 1)))), (2, .int (nI ((z_bb s (S + 1) k)))), (3, .int (nI k))] [] (M2) := by
        refine jr_up (S := fun k => ∀ M2, zR_pl s (S + 1) M2 → M2.1 58 (S + 1) = zmv (z_be (s 16) (z_ak (s 15) (s 16)) (S + 1) k).1 → M2.1 59 (S + 1) = nI (z_dp s (S + 1) k) → mm_same [57, 58, 59] M M2 → mm_J g E mX8_findTrees (fun v M' => v = none ∧ zR_pl s (2 ^ s 0 6) M' ∧ mm_same [57, 58, 59] M M') 39 [(0, .ref (E.1 35)), (1, .int (nI ((S + 1)))), (2, .int (nI ((z_bb s (S + 1) k)))), (3, .int (nI k))] [] (M2)) (n := 6) ?_ ?_
        · intro M2 hP h58 h59 hs
          show mm_J g E mX8_findTrees (fun v M' => v = none ∧ zR_pl s (2 ^ s 0 6) M' ∧ mm_same [57, 58, 59] M M') 39 [(0, .ref (E.1 35)), (1, .int (nI ((S + 1)))), (2, .int (nI ((z_bb s (S + 1) (6))))), (3, .int (nI (6)))] [] (M2)
          have hz := z_e_dp hq (S := S + 1) (by omega)
          have hbl := z_be_le hw hq (S := S + 1) (by omega) 6 (Nat.le_refl _)
          have Rq : zR_q s M2 := zR_q_c (by rw [(hs 35 (by decide)).1]) (hs.at (by decide)) Rq
          refine jr_iload_n hg 3 rfl rfl dX8_findTrees_39 ?_
          refine jr_bipush hg (nI 6) dX8_findTrees_40 (by decide) ?_
          refine jr_icmp_geN (tgt := 167) hg dX8_findTrees_42 (by decide) (by omega) (by omega) (fun h42 => ?_) (fun h => by omega)
          refine jr_aload_n hg 0 rfl rfl dX8_findTrees_167 ?_
          refine gf_X8_79 hg (hI 35 (by decide)) dX8_findTrees_168 ?_
          refine jr_iload_n hg 1 rfl rfl dX8_findTrees_171 ?_
          refine jr_aload_n hg 0 rfl rfl dX8_findTrees_172 ?_
          refine gf_X8_82 hg (hI 35 (by decide)) dX8_findTrees_173 ?_
          refine jr_iload_n hg 1 rfl rfl dX8_findTrees_176 ?_
          refine jr_ialdN hg (n := 256) (by omega) (by decide) (hI 58 (by decide)) (ac_58 _ _) dX8_findTrees_177 ?_
          refine jr_top (h58) ?_
          refine jr_if_ge (tgt := 185) hg dX8_findTrees_178 (by decide) (fun h178 => ?_) (fun h178 => ?_)
          · refine jr_aload_n hg 0 rfl rfl dX8_findTrees_185 ?_
            refine jr_iload_n hg 1 rfl rfl dX8_findTrees_186 ?_
            refine jr_cV1v hg lk_X8_277 (hI 35 (by decide)) rfl rfl (by decide) (by decide) (Nat.le_of_ble_eq_true rfl) dX8_findTrees_187 (c_X8_weightOf hI Rq Wq hS6) ?_
            refine jr_iload_n hg 2 rfl rfl dX8_findTrees_190 ?_
            refine jr_iaddN hg dX8_findTrees_191 ?_
            refine jr_iastN hg (n := 256) (by omega) (by decide) (hI 57 (by decide)) (ac_57) dX8_findTrees_192 ?_
            refine jr_iinc hg 1 rfl (nI (_ + 1)) (nI_1 _) dX8_findTrees_193 (by decide) rfl ?_
            refine jr_goto (tgt := 2) hg dX8_findTrees_196 (by decide) ?_
            exact jr_lv [1, 0] rfl (ih (mm_si M2 57 (upd (M2.1 57) (S + 1) _)) (zR_pl_a hP (by rw [hz.1]; exact h58) (by rw [hz.2.1]; exact h59) (by rw [hz.2.2, if_neg ((zmv_sgn' (by omega)).mp h178)])) (hs.si (by decide)))
          · refine jr_iconst hg (nI 0) dX8_findTrees_181 (by decide) ?_
            refine jr_goto (tgt := 192) hg dX8_findTrees_182 (by decide) ?_
            refine jr_iastN hg (n := 256) (by omega) (by decide) (hI 57 (by decide)) (ac_57) dX8_findTrees_192 ?_
            refine jr_iinc hg 1 rfl (nI (_ + 1)) (nI_1 _) dX8_findTrees_193 (by decide) rfl ?_
            refine jr_goto (tgt := 2) hg dX8_findTrees_196 (by decide) ?_
            exact jr_lv [1, 0] rfl (ih (mm_si M2 57 (upd (M2.1 57) (S + 1) _)) (zR_pl_a hP (by rw [hz.1]; exact h58) (by rw [hz.2.1]; exact h59) (by rw [hz.2.2, if_pos (Decidable.byContradiction (fun r => h178 ((zmv_sgn' (by omega)).mpr r)))])) (hs.si (by decide)))
        · intro k hk ih2 M2 hP h58 h59 hs
          show mm_J g E mX8_findTrees (fun v M' => v = none ∧ zR_pl s (2 ^ s 0 6) M' ∧ mm_same [57, 58, 59] M M') 39 [(0, .ref (E.1 35)), (1, .int (nI ((S + 1)))), (2, .int (nI ((z_bb s (S + 1) k)))), (3, .int (nI k))] [] (M2)
          have hbl := z_be_le hw hq (S := S + 1) (by omega) k (by omega)
          have hbb : z_bb s (S + 1) k ≤ 1000000000 := by rw [z_bb]; split <;> omega
          have y1 : S + 1 &&& s 16 k ≤ S + 1 := Nat.and_le_left
          have y2 := z_no_le (S + 1) (s 16 k)
          have Rq : zR_q s M2 := zR_q_c (by rw [(hs 35 (by decide)).1]) (hs.at (by decide)) Rq
          refine jr_iload_n hg 3 rfl rfl dX8_findTrees_39 ?_
          refine jr_bipush hg (nI 6) dX8_findTrees_40 (by decide) ?_
          refine jr_icmp_geN (tgt := 167) hg dX8_findTrees_42 (by decide) (by omega) (by omega) (fun h => by omega) (fun h42 => ?_)
          refine jr_iload_n hg 1 rfl rfl dX8_findTrees_45 ?_
          refine jr_aload_n hg 0 rfl rfl dX8_findTrees_46 ?_
          refine gf_X8_76 hg (hI 35 (by decide)) dX8_findTrees_47 ?_
          refine jr_iload_n hg 3 rfl rfl dX8_findTrees_50 ?_
          refine jr_ialdN hg (n := 6) (by omega) (by decide) (hI 56 (by decide)) (ac_56 _ _) dX8_findTrees_51 ?_
          refine jr_top (Rq.2.2 _ (by omega)) ?_
          refine jr_iand hg dX8_findTrees_52 ?_
          refine jr_top (nI_and _ _) ?_
          refine jr_istore hg dX8_findTrees_53 (by decide) rfl ?_
          refine jr_iload_n hg 2 rfl rfl dX8_findTrees_55 ?_
          refine jr_aload_n hg 1 rfl rfl dX8_findTrees_56 ?_
          refine gf_X8_76 hg (hI 35 (by decide)) dX8_findTrees_57 ?_
          refine jr_iload_n hg 4 rfl rfl dX8_findTrees_60 ?_
          refine jr_ialdN hg (n := 6) (by omega) (by decide) (hI 56 (by decide)) (ac_56 _ _) dX8_findTrees_61 ?_
          refine jr_top (Rq.2.2 _ (by omega)) ?_
          refine jr_iconst hg (-1) dX8_findTrees_62 (by decide) ?_
          refine jr_ixor hg dX8_findTrees_63 ?_
          refine jr_iand hg dX8_findTrees_64 ?_
          refine jr_top (nI_xm1 (hq k (by omega)) (by omega)) ?_
          refine jr_istore hg dX8_findTrees_65 (by decide) rfl ?_
          refine jr_iload hg 1 rfl dX8_findTrees_67 ?_
          refine jr_if_eqN (tgt := 161) hg dX8_findTrees_69 (by decide) (by omega) (fun h69 => ?_) (fun h69 => ?_)
          · refine jr_iinc hg 5 rfl (nI (_ + 1)) (nI_1 _) dX8_findTrees_161 (by decide) rfl ?_
            refine jr_goto (tgt := 39) hg dX8_findTrees_164 (by decide) ?_
            have e : z_be (s 16) (z_ak (s 15) (s 16)) (S + 1) (k + 1) = z_be (s 16) (z_ak (s 15) (s 16)) (S + 1) k := by rw [z_be, if_neg (fun z => z.1.1 h69)]
            have e2 : z_dp s (S + 1) (k + 1) = z_dp s (S + 1) k := by rw [z_dp, z_dp, e]
            have e3 : z_bb s (S + 1) (k + 1) = z_bb s (S + 1) k := by rw [z_bb, z_bb, e]
            rw [e3] at ih2
            exact jr_lv [3, 4, 5, 0] rfl (ih2 M2 hP (by rw [e]; exact h58) (by rw [e2]; exact h59) hs)
          · refine jr_iload hg 0 rfl dX8_findTrees_72 ?_
            refine jr_if_eqN (tgt := 161) hg dX8_findTrees_74 (by decide) (by omega) (fun h74 => ?_) (fun h74 => ?_)
            · refine jr_iinc hg 5 rfl (nI (_ + 1)) (nI_1 _) dX8_findTrees_161 (by decide) rfl ?_
              refine jr_goto (tgt := 39) hg dX8_findTrees_164 (by decide) ?_
              have e : z_be (s 16) (z_ak (s 15) (s 16)) (S + 1) (k + 1) = z_be (s 16) (z_ak (s 15) (s 16)) (S + 1) k := by rw [z_be, if_neg (fun z => z.1.2 h74)]
              have e2 : z_dp s (S + 1) (k + 1) = z_dp s (S + 1) k := by rw [z_dp, z_dp, e]
              have e3 : z_bb s (S + 1) (k + 1) = z_bb s (S + 1) k := by rw [z_bb, z_bb, e]
              rw [e3] at ih2
              exact jr_lv [3, 4, 5, 0] rfl (ih2 M2 hP (by rw [e]; exact h58) (by rw [e2]; exact h59) hs)
            · have sp := zsplit (S + 1) (by omega) (s 16 k) (hq k (by omega))
              have a1 := hP (S + 1 &&& s 16 k) (by omega) (by omega)
              have a2 := hP (z_no (S + 1) (s 16 k)) (by omega) (by omega)
              have b1 := z_e_le hw hq (S + 1 &&& s 16 k) (by omega)
              have b2 := z_e_le hw hq (z_no (S + 1) (s 16 k)) (by omega)
              have c1 : z_ak (s 15) (s 16) (S + 1 &&& s 16 k) = (z_e (s 15) (s 16) (S + 1 &&& s 16 k)).1 := rfl
              have c2 : z_ak (s 15) (s 16) (z_no (S + 1) (s 16 k)) = (z_e (s 15) (s 16) (z_no (S + 1) (s 16 k))).1 := rfl
              refine jr_aload_n hg 2 rfl rfl dX8_findTrees_77 ?_
              refine gf_X8_79 hg (hI 35 (by decide)) dX8_findTrees_78 ?_
              refine jr_iload hg 1 rfl dX8_findTrees_81 ?_
              refine jr_ialdN hg (n := 256) (by omega) (by decide) (hI 57 (by decide)) (ac_57 _ _) dX8_findTrees_83 ?_
              refine jr_top (a1.1) ?_
              refine jr_aload_n hg 2 rfl rfl dX8_findTrees_84 ?_
              refine gf_X8_79 hg (hI 35 (by decide)) dX8_findTrees_85 ?_
              refine jr_iload hg 0 rfl dX8_findTrees_88 ?_
              refine jr_ialdN hg (n := 256) (by omega) (by decide) (hI 57 (by decide)) (ac_57 _ _) dX8_findTrees_90 ?_
              refine jr_top (a2.1) ?_
              refine jr_iaddN hg dX8_findTrees_91 ?_
              refine jr_iload_n hg 4 rfl rfl dX8_findTrees_92 ?_
              refine jr_icmp_geN (tgt := 161) hg dX8_findTrees_93 (by decide) (by omega) (by omega) (fun h93 => ?_) (fun h93 => ?_)
              · refine jr_iinc hg 5 rfl (nI (_ + 1)) (nI_1 _) dX8_findTrees_161 (by decide) rfl ?_
                refine jr_goto (tgt := 39) hg dX8_findTrees_164 (by decide) ?_
                have e : z_be (s 16) (z_ak (s 15) (s 16)) (S + 1) (k + 1) = z_be (s 16) (z_ak (s 15) (s 16)) (S + 1) k := by rw [z_be, if_neg (fun z => by rw [z_bb] at h93; rcases z.2 with z | z; rw [if_pos z] at h93; omega; split at h93 <;> omega)]
                have e2 : z_dp s (S + 1) (k + 1) = z_dp s (S + 1) k := by rw [z_dp, z_dp, e]
                have e3 : z_bb s (S + 1) (k + 1) = z_bb s (S + 1) k := by rw [z_bb, z_bb, e]
                rw [e3] at ih2
                exact jr_lv [3, 4, 5, 0] rfl (ih2 M2 hP (by rw [e]; exact h58) (by rw [e2]; exact h59) hs)
              · refine jr_aload_n hg 2 rfl rfl dX8_findTrees_96 ?_
                refine gf_X8_79 hg (hI 35 (by decide)) dX8_findTrees_97 ?_
                refine jr_iload hg 1 rfl dX8_findTrees_100 ?_
                refine jr_ialdN hg (n := 256) (by omega) (by decide) (hI 57 (by decide)) (ac_57 _ _) dX8_findTrees_102 ?_
                refine jr_top (a1.1) ?_
                refine jr_aload_n hg 2 rfl rfl dX8_findTrees_103 ?_
                refine gf_X8_79 hg (hI 35 (by decide)) dX8_findTrees_104 ?_
                refine jr_iload hg 0 rfl dX8_findTrees_107 ?_
                refine jr_ialdN hg (n := 256) (by omega) (by decide) (hI 57 (by decide)) (ac_57 _ _) dX8_findTrees_109 ?_
                refine jr_top (a2.1) ?_
                refine jr_iaddN hg dX8_findTrees_110 ?_
                refine jr_istore_n hg dX8_findTrees_111 rfl (by decide) rfl ?_
                refine jr_aload_n hg 3 rfl rfl dX8_findTrees_112 ?_
                refine gf_X8_82 hg (hI 35 (by decide)) dX8_findTrees_113 ?_
                refine jr_iload_n hg 4 rfl rfl dX8_findTrees_116 ?_
                refine jr_iload_n hg 5 rfl rfl dX8_findTrees_117 ?_
                refine jr_iastN hg (n := 256) (by omega) (by decide) (hI 58 (by decide)) (ac_58) dX8_findTrees_118 ?_
                refine jr_aload_n hg 3 rfl rfl dX8_findTrees_119 ?_
                refine gf_X8_85 hg (hI 35 (by decide)) dX8_findTrees_120 ?_
                refine jr_iload_n hg 4 rfl rfl dX8_findTrees_123 ?_
                refine jr_iconst hg (nI 1) dX8_findTrees_124 (by decide) ?_
                refine jr_aload_n hg 3 rfl rfl dX8_findTrees_125 ?_
                refine gf_X8_85 hg (hI 35 (by decide)) dX8_findTrees_126 ?_
                refine jr_iload hg 2 rfl dX8_findTrees_129 ?_
                refine jr_ialdN hg (n := 256) (by omega) (by decide) (hI 59 (by decide)) (ac_59 _ _) dX8_findTrees_131 ?_
                refine jr_top (a1.2.2) ?_
                refine jr_aload_n hg 3 rfl rfl dX8_findTrees_132 ?_
                refine gf_X8_85 hg (hI 35 (by decide)) dX8_findTrees_133 ?_
                refine jr_iload hg 1 rfl dX8_findTrees_136 ?_
                refine jr_ialdN hg (n := 256) (by omega) (by decide) (hI 59 (by decide)) (ac_59 _ _) dX8_findTrees_138 ?_
                refine jr_top (a2.2.2) ?_
                refine jr_icmp_leN (tgt := 152) hg dX8_findTrees_139 (by decide) (by omega) (by omega) (fun h139 => ?_) (fun h139 => ?_)
                · refine jr_aload_n hg 3 rfl rfl dX8_findTrees_152 ?_
                  refine gf_X8_85 hg (hI 35 (by decide)) dX8_findTrees_153 ?_
                  refine jr_iload hg 1 rfl dX8_findTrees_156 ?_
                  refine jr_ialdN hg (n := 256) (by omega) (by decide) (hI 59 (by decide)) (ac_59 _ _) dX8_findTrees_158 ?_
                  refine jr_top (a2.2.2) ?_
                  refine jr_iaddN hg dX8_findTrees_159 ?_
                  refine jr_iastN hg (n := 256) (by omega) (by decide) (hI 59 (by decide)) (ac_59) dX8_findTrees_160 ?_
                  refine jr_iinc hg 5 rfl (nI (_ + 1)) (nI_1 _) dX8_findTrees_161 (by decide) rfl ?_
                  refine jr_goto (tgt := 39) hg dX8_findTrees_164 (by decide) ?_
                  have e : z_be (s 16) (z_ak (s 15) (s 16)) (S + 1) (k + 1) = (k + 1, z_ak (s 15) (s 16) (S + 1 &&& s 16 k) + z_ak (s 15) (s 16) (z_no (S + 1) (s 16 k))) := by
                    rw [z_be, if_pos ⟨⟨by omega, by omega⟩, by rw [z_bb] at h93; split at h93; exact Or.inl (by assumption); exact Or.inr (by omega)⟩]
                  have e3 : z_bb s (S + 1) (k + 1) = (z_e (s 15) (s 16) (S + 1 &&& s 16 k)).1 + (z_e (s 15) (s 16) (z_no (S + 1) (s 16 k))).1 := by rw [z_bb, e, if_neg (Nat.succ_ne_zero k)]; rfl
                  have e2 : z_dp s (S + 1) (k + 1) = 1 + max (z_e (s 15) (s 16) (S + 1 &&& s 16 k)).2.2 (z_e (s 15) (s 16) (z_no (S + 1) (s 16 k))).2.2 := by rw [z_dp, e, if_neg (Nat.succ_ne_zero k)]; rfl
                  rw [e3] at ih2
                  refine jr_lv [4, 5, 1, 0] rfl (ih2 _ (zR_pl_u hP) ?_ ?_ ((hs.si (by decide)).si (by decide)))
                  · show upd (M2.1 58) (S + 1) (nI k) (S + 1) = _
                    rw [upd_s, e]; exact (zmv_s k).symm
                  · show upd (M2.1 59) (S + 1) _ (S + 1) = _
                    rw [upd_s, e2, Nat.max_eq_right (by omega)]
                · refine jr_aload_n hg 3 rfl rfl dX8_findTrees_142 ?_
                  refine gf_X8_85 hg (hI 35 (by decide)) dX8_findTrees_143 ?_
                  refine jr_iload hg 2 rfl dX8_findTrees_146 ?_
                  refine jr_ialdN hg (n := 256) (by omega) (by decide) (hI 59 (by decide)) (ac_59 _ _) dX8_findTrees_148 ?_
                  refine jr_top (a1.2.2) ?_
                  refine jr_goto (tgt := 159) hg dX8_findTrees_149 (by decide) ?_
                  refine jr_iaddN hg dX8_findTrees_159 ?_
                  refine jr_iastN hg (n := 256) (by omega) (by decide) (hI 59 (by decide)) (ac_59) dX8_findTrees_160 ?_
                  refine jr_iinc hg 5 rfl (nI (_ + 1)) (nI_1 _) dX8_findTrees_161 (by decide) rfl ?_
                  refine jr_goto (tgt := 39) hg dX8_findTrees_164 (by decide) ?_
                  have e : z_be (s 16) (z_ak (s 15) (s 16)) (S + 1) (k + 1) = (k + 1, z_ak (s 15) (s 16) (S + 1 &&& s 16 k) + z_ak (s 15) (s 16) (z_no (S + 1) (s 16 k))) := by
                    rw [z_be, if_pos ⟨⟨by omega, by omega⟩, by rw [z_bb] at h93; split at h93; exact Or.inl (by assumption); exact Or.inr (by omega)⟩]
                  have e3 : z_bb s (S + 1) (k + 1) = (z_e (s 15) (s 16) (S + 1 &&& s 16 k)).1 + (z_e (s 15) (s 16) (z_no (S + 1) (s 16 k))).1 := by rw [z_bb, e, if_neg (Nat.succ_ne_zero k)]; rfl
                  have e2 : z_dp s (S + 1) (k + 1) = 1 + max (z_e (s 15) (s 16) (S + 1 &&& s 16 k)).2.2 (z_e (s 15) (s 16) (z_no (S + 1) (s 16 k))).2.2 := by rw [z_dp, e, if_neg (Nat.succ_ne_zero k)]; rfl
                  rw [e3] at ih2
                  refine jr_lv [4, 5, 1, 0] rfl (ih2 _ (zR_pl_u hP) ?_ ?_ ((hs.si (by decide)).si (by decide)))
                  · show upd (M2.1 58) (S + 1) (nI k) (S + 1) = _
                    rw [upd_s, e]; exact (zmv_s k).symm
                  · show upd (M2.1 59) (S + 1) _ (S + 1) = _
                    rw [upd_s, e2, Nat.max_eq_left (by omega)]
      exact jr_lv [2, 3, 1, 0] rfl (lp39 0 (by omega) _ (zR_pl_3 hP) (by show upd (M1.1 58) (S + 1) _ (S + 1) = _; rw [upd_s]; rfl) (by show upd (M1.1 59) (S + 1) _ (S + 1) = _; rw [upd_s]; rfl) (((hs.si (by decide)).si (by decide)).si (by decide)))
  exact jr_lv [1, 0] rfl (lp2 0 (by omega) M (fun T a b => by omega) mm_same.rf)
