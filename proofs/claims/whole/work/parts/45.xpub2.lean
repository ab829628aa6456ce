set_option maxRecDepth 100000 in
theorem c_X3_add_full {E : mm_E} (hI : mm_FX E) {M : mm_M} {s : zS} (hR : zX_k s M) {l p a : Int32} (hfull : s 0 2 = 200) : mm_Cal E mX3_add [.ref (E.1 3), .int l, .int p, .int a] M (ret1 (.int (-1004)) M) := by
  refine jr_entry RX3 (by decide +kernel) (Nat.le_of_ble_eq_true rfl) (fun g hg => ?_)
  refine jr_lv (lv' := [(0, .ref (E.1 3)), (1, .int l), (2, .int p), (3, .int a)]) [0, 1, 2, 3] rfl ?_
  refine jr_aload_n hg 0 rfl rfl dX3_add_0 ?_
  refine gf_X3_37 hg (hI 3 (by decide)) dX3_add_1 ?_
  refine jr_top (hR.1) ?_
  refine jr_sipush hg (nI 200) dX3_add_4 (by decide) ?_
  refine jr_icmp_ltN (tgt := 14) hg dX3_add_7 (by decide) (by omega) (by omega) (fun h => by omega) (fun h7 => ?_)
  refine jr_sipush hg (-1004) dX3_add_10 (by decide) ?_
  exact jr_iret hg rfl dX3_add_13 (⟨rfl, rfl⟩)

theorem zX_k_add {s : zS} {M M1 : mm_M} {l p a : Nat} (h : zX s M) (hk : zX_k (zaddk s l p a) M1) (hs : mm_same [3, 12, 13, 14, 15, 16, 17, 18, 19] M M1) : zX (zaddk s l p a) M1 :=
  ⟨zX_p_c (hs.at (by decide)) h.1, zX_l_c (hs.at (by decide)) h.2.1, hk, zX_w_c (hs.at (by decide)) h.2.2.2.1, zX_t_c (hs.at (by decide)) h.2.2.2.2.1, by
    show M1.2 0 0 = _
    rw [(hs 0 (by decide)).2]; exact h.2.2.2.2.2.1, zX_o_c (hs.at (by decide)) h.2.2.2.2.2.2.1, zX_q_c (hs.at (by decide)) h.2.2.2.2.2.2.2⟩
theorem zX_qs {s : zS} {M M1 : mm_M} (h : zX s M) (hq : zX_q s M1) (hs : mm_same [5, 27, 28, 29] M M1) : zX s M1 :=
  ⟨zX_p_c (hs.at (by decide)) h.1, zX_l_c (hs.at (by decide)) h.2.1, zX_k_c (hs.at (by decide)) h.2.2.1, zX_w_c (hs.at (by decide)) h.2.2.2.1, zX_t_c (hs.at (by decide)) h.2.2.2.2.1, by
    show M1.2 0 0 = _
    rw [(hs 0 (by decide)).2]; exact h.2.2.2.2.2.1, zX_o_c (hs.at (by decide)) h.2.2.2.2.2.2.1, hq⟩

set_option maxRecDepth 100000 in
theorem c_X7_look {E : mm_E} (hI : mm_FX E) {M : mm_M} {s : zS} (hR : zX s M) (hW : zW s) (l p a : Int32) : mm_Cal E mX7_look [.ref (E.1 7), .int l, .int p, .int a] M (fun v M' => v = some (.int (zq_look s l p a).1) ∧ zX (zq_look s l p a).2 M') := by
  obtain ⟨Rp, Rl, Rk, Rw, Rt, Rd, Ro, Rq⟩ := hR
  obtain ⟨Wp, Wl, Wk, Ww, Wt, Wd, Wo, Wq⟩ := hW
  have hnp := Wp.1
  have hnl := Wl.1
  have hnk := Wk.1
  have hall : zX s M := ⟨Rp, Rl, Rk, Rw, Rt, Rd, Ro, Rq⟩
  have wall : zW s := ⟨Wp, Wl, Wk, Ww, Wt, Wd, Wo, Wq⟩
  refine jr_entry RX7 (by decide +kernel) (Nat.le_of_ble_eq_true rfl) (fun g hg => ?_)
  refine jr_lv (lv' := [(0, .ref (E.1 7)), (1, .int l), (2, .int p), (3, .int a)]) [0, 1, 2, 3] rfl ?_
  refine jr_aload_n hg 0 rfl rfl dX7_look_0 ?_
  refine gf_X7_33 hg (hI 7 (by decide)) dX7_look_1 ?_
  refine jr_iload_n hg 1 rfl rfl dX7_look_4 ?_
  refine jr_cV1v hg lk_X7_147 (hI 2 (by decide)) rfl rfl (by decide) (by decide) (Nat.le_of_ble_eq_true rfl) dX7_look_5 (c_X2_has hI Rl Wl l) ?_
  refine jr_if_eqZ (tgt := 22) hg dX7_look_8 (by decide) (fun h8 => ?_) (fun h8 => ?_)
  · refine jr_sipush hg (-1001) dX7_look_22 (by decide) ?_
    exact jr_iret hg rfl dX7_look_25 (zq_ok (if_neg (by rw [h8]; simp)) hall)
  · refine jr_aload_n hg 0 rfl rfl dX7_look_11 ?_
    refine gf_X7_26 hg (hI 7 (by decide)) dX7_look_12 ?_
    refine jr_iload_n hg 2 rfl rfl dX7_look_15 ?_
    refine jr_cV1v hg lk_X7_70 (hI 4 (by decide)) rfl rfl (by decide) (by decide) (Nat.le_of_ble_eq_true rfl) dX7_look_16 (c_X4_has hI Rp Wp p) ?_
    refine jr_if_neZ (tgt := 26) hg dX7_look_19 (by decide) (fun h19 => ?_) (fun h19 => ?_)
    · refine jr_iload_n hg 3 rfl rfl dX7_look_26 ?_
      refine jr_iconst hg (nI 0) dX7_look_27 (by decide) ?_
      refine jr_iconst hg (nI 3) dX7_look_28 (by decide) ?_
      refine jr_cS3v hg lk_X7_62 (by decide) (by decide) (Nat.le_of_ble_eq_true rfl) dX7_look_29 (c_X7_isWithin0 hI a (by decide)) ?_
      refine jr_if_neZ (tgt := 39) hg dX7_look_32 (by decide) (fun h32 => ?_) (fun h32 => ?_)
      · obtain ⟨l1, hl, rfl⟩ := zin_of (by omega) h8
        obtain ⟨p1, hp, rfl⟩ := zin_of (by omega) h19
        obtain ⟨a1, ha, rfl⟩ := zin_of (by decide) h32
        have hq : (zin (nI l1) (s 0 1) && zin (nI p1) (s 0 0)) = true := by rw [h8, h19]; rfl
        have han := z_an_le Wk l1 p1
        refine jr_aload_n hg 0 rfl rfl dX7_look_39 ?_
        refine gf_X7_40 hg (hI 7 (by decide)) dX7_look_40 ?_
        refine jr_iload_n hg 1 rfl rfl dX7_look_43 ?_
        refine jr_iload_n hg 2 rfl rfl dX7_look_44 ?_
        refine jr_cV2v hg lk_X7_148 (hI 3 (by decide)) rfl rfl (by decide) (by decide) (Nat.le_of_ble_eq_true rfl) dX7_look_45 (c_X3_answerAt hI Rk Wk (by omega) (by omega)) ?_
        refine jr_iconst hg (-1) dX7_look_48 (by decide) ?_
        refine jr_icmp_eq (tgt := 56) hg dX7_look_49 (by decide) (fun h49 => ?_) (fun h49 => ?_)
        · rcases Nat.lt_or_ge (s 0 2) 200 with hf | hf
          · have h0 := (zmv_m1 (by omega)).mp h49
            refine jr_aload_n hg 0 rfl rfl dX7_look_56 ?_
            refine gf_X7_40 hg (hI 7 (by decide)) dX7_look_57 ?_
            refine jr_iload_n hg 1 rfl rfl dX7_look_60 ?_
            refine jr_iload_n hg 2 rfl rfl dX7_look_61 ?_
            refine jr_iload_n hg 3 rfl rfl dX7_look_62 ?_
            refine jr_cV3p hg lk_X7_152 (hI 3 (by decide)) rfl rfl (by decide) (by decide) (Nat.le_of_ble_eq_true rfl) dX7_look_63 (c_X3_add hI Rk Wk (by omega) (by omega) (by omega) hf h0) (fun r M' h => ?_)
            obtain ⟨rfl, h⟩ := h
            refine jr_st (show _ = [Value.int (nI (s 0 2))] from rfl) ?_
            exact jr_iret hg rfl dX7_look_66 (zq_ok (by rw [zq_look, if_pos hq, if_pos h32, zn_nI (by omega), zn_nI (by omega), zn_nI (by omega), if_pos h0, if_pos hf]) (zX_k_add hall h.1 h.2))
          · have h0 := (zmv_m1 (by omega)).mp h49
            refine jr_aload_n hg 0 rfl rfl dX7_look_56 ?_
            refine gf_X7_40 hg (hI 7 (by decide)) dX7_look_57 ?_
            refine jr_iload_n hg 1 rfl rfl dX7_look_60 ?_
            refine jr_iload_n hg 2 rfl rfl dX7_look_61 ?_
            refine jr_iload_n hg 3 rfl rfl dX7_look_62 ?_
            refine jr_cV3v hg lk_X7_152 (hI 3 (by decide)) rfl rfl (by decide) (by decide) (Nat.le_of_ble_eq_true rfl) dX7_look_63 (c_X3_add_full hI Rk (by omega)) ?_
            exact jr_iret hg rfl dX7_look_66 (zq_ok (by rw [zq_look, if_pos hq, if_pos h32, zn_nI (by omega), zn_nI (by omega), if_pos h0, if_neg (by omega)]) hall)
        · refine jr_sipush hg (-1003) dX7_look_52 (by decide) ?_
          exact jr_iret hg rfl dX7_look_55 (zq_ok (by rw [zq_look, if_pos hq, if_pos h32, zn_nI (by omega), zn_nI (by omega), if_neg (fun q => h49 ((zmv_m1 (by omega)).mpr q))]) hall)
      · refine jr_sipush hg (-1002) dX7_look_35 (by decide) ?_
        exact jr_iret hg rfl dX7_look_38 (zq_ok (by rw [zq_look, if_pos (by rw [h8, h19]; rfl), if_neg (by rw [h32]; simp)]) hall)
    · refine jr_sipush hg (-1001) dX7_look_22 (by decide) ?_
      exact jr_iret hg rfl dX7_look_25 (zq_ok (if_neg (by rw [h8, h19]; simp)) hall)

set_option maxRecDepth 100000 in
theorem c_X7_says {E : mm_E} (hI : mm_FX E) {M : mm_M} {s : zS} (hR : zX s M) (hW : zW s) (l p : Int32) : mm_Cal E mX7_says [.ref (E.1 7), .int l, .int p] M (fun v M' => v = some (.int (zq_says s l p).1) ∧ zX (zq_says s l p).2 M') := by
  obtain ⟨Rp, Rl, Rk, Rw, Rt, Rd, Ro, Rq⟩ := hR
  obtain ⟨Wp, Wl, Wk, Ww, Wt, Wd, Wo, Wq⟩ := hW
  have hnp := Wp.1
  have hnl := Wl.1
  have hnk := Wk.1
  have hall : zX s M := ⟨Rp, Rl, Rk, Rw, Rt, Rd, Ro, Rq⟩
  have wall : zW s := ⟨Wp, Wl, Wk, Ww, Wt, Wd, Wo, Wq⟩
  refine jr_entry RX7 (by decide +kernel) (Nat.le_of_ble_eq_true rfl) (fun g hg => ?_)
  refine jr_lv (lv' := [(0, .ref (E.1 7)), (1, .int l), (2, .int p)]) [0, 1, 2] rfl ?_
  refine jr_aload_n hg 0 rfl rfl dX7_says_0 ?_
  refine gf_X7_33 hg (hI 7 (by decide)) dX7_says_1 ?_
  refine jr_iload_n hg 1 rfl rfl dX7_says_4 ?_
  refine jr_cV1v hg lk_X7_147 (hI 2 (by decide)) rfl rfl (by decide) (by decide) (Nat.le_of_ble_eq_true rfl) dX7_says_5 (c_X2_has hI Rl Wl l) ?_
  refine jr_if_eqZ (tgt := 22) hg dX7_says_8 (by decide) (fun h8 => ?_) (fun h8 => ?_)
  · refine jr_sipush hg (-1001) dX7_says_22 (by decide) ?_
    exact jr_iret hg rfl dX7_says_25 (zq_ok (if_neg (by rw [h8]; simp)) hall)
  · refine jr_aload_n hg 0 rfl rfl dX7_says_11 ?_
    refine gf_X7_26 hg (hI 7 (by decide)) dX7_says_12 ?_
    refine jr_iload_n hg 2 rfl rfl dX7_says_15 ?_
    refine jr_cV1v hg lk_X7_70 (hI 4 (by decide)) rfl rfl (by decide) (by decide) (Nat.le_of_ble_eq_true rfl) dX7_says_16 (c_X4_has hI Rp Wp p) ?_
    refine jr_if_neZ (tgt := 26) hg dX7_says_19 (by decide) (fun h19 => ?_) (fun h19 => ?_)
    · obtain ⟨l1, hl, rfl⟩ := zin_of (by omega) h8
      obtain ⟨p1, hp, rfl⟩ := zin_of (by omega) h19
      have hq : (zin (nI l1) (s 0 1) && zin (nI p1) (s 0 0)) = true := by rw [h8, h19]; rfl
      have han := z_an_le Wk l1 p1
      refine jr_aload_n hg 0 rfl rfl dX7_says_26 ?_
      refine gf_X7_40 hg (hI 7 (by decide)) dX7_says_27 ?_
      refine jr_iload_n hg 1 rfl rfl dX7_says_30 ?_
      refine jr_iload_n hg 2 rfl rfl dX7_says_31 ?_
      refine jr_cV2v hg lk_X7_148 (hI 3 (by decide)) rfl rfl (by decide) (by decide) (Nat.le_of_ble_eq_true rfl) dX7_says_32 (c_X3_answerAt hI Rk Wk (by omega) (by omega)) ?_
      refine jr_iconst hg (-1) dX7_says_35 (by decide) ?_
      refine jr_icmp_eq (tgt := 43) hg dX7_says_36 (by decide) (fun h36 => ?_) (fun h36 => ?_)
      · refine jr_aload_n hg 0 rfl rfl dX7_says_43 ?_
        refine gf_X7_40 hg (hI 7 (by decide)) dX7_says_44 ?_
        refine jr_cV0v hg lk_X7_155 (hI 3 (by decide)) rfl rfl (by decide) (by decide) (Nat.le_of_ble_eq_true rfl) dX7_says_47 (c_X3_isFull hI Rk Wk) ?_
        refine jr_if_eqZ (tgt := 57) hg dX7_says_50 (by decide) (fun h50 => ?_) (fun h50 => ?_)
        · refine jr_aload_n hg 0 rfl rfl dX7_says_57 ?_
          refine jr_iload_n hg 1 rfl rfl dX7_says_58 ?_
          refine jr_iload_n hg 2 rfl rfl dX7_says_59 ?_
          refine jr_cV2p hg lk_X7_159 (hI 7 (by decide)) rfl rfl (by decide) (by decide) (Nat.le_of_ble_eq_true rfl) dX7_says_60 (c_X7_lookByDraws hI hall wall hl hp (by have := of_decide_eq_false h50; omega) ((zmv_m1 (by omega)).mp h36)) (fun r M' h => ?_)
          obtain ⟨rfl, h⟩ := h
          refine jr_st (show _ = [Value.int (nI (z_said s l1 p1 (s 0 3)).1)] from rfl) ?_
          exact jr_iret hg rfl dX7_says_63 (zq_ok (by rw [zq_says, if_pos hq, zn_nI (by omega), zn_nI (by omega), if_pos ((zmv_m1 (by omega)).mp h36), if_pos (by have := of_decide_eq_false h50; omega)]) h.1)
        · refine jr_sipush hg (-1004) dX7_says_53 (by decide) ?_
          exact jr_iret hg rfl dX7_says_56 (zq_ok (by rw [zq_says, if_pos hq, zn_nI (by omega), zn_nI (by omega), if_pos ((zmv_m1 (by omega)).mp h36), if_neg (by have := of_decide_eq_true h50; omega)]) hall)
      · refine jr_sipush hg (-1003) dX7_says_39 (by decide) ?_
        exact jr_iret hg rfl dX7_says_42 (zq_ok (by rw [zq_says, if_pos hq, zn_nI (by omega), zn_nI (by omega), if_neg (fun q => h36 ((zmv_m1 (by omega)).mpr q))]) hall)
    · refine jr_sipush hg (-1001) dX7_says_22 (by decide) ?_
      exact jr_iret hg rfl dX7_says_25 (zq_ok (if_neg (by rw [h8, h19]; simp)) hall)

set_option maxRecDepth 100000 in
theorem c_X7_about {E : mm_E} (hI : mm_FX E) {M : mm_M} {s : zS} (hR : zX s M) (hW : zW s) (k w : Int32) : mm_Cal E mX7_about [.ref (E.1 7), .int k, .int w] M (fun v M' => v = some (.int (zq_about s k w).1) ∧ zX (zq_about s k w).2 M') := by
  obtain ⟨Rp, Rl, Rk, Rw, Rt, Rd, Ro, Rq⟩ := hR
  obtain ⟨Wp, Wl, Wk, Ww, Wt, Wd, Wo, Wq⟩ := hW
  have hnp := Wp.1
  have hnl := Wl.1
  have hnk := Wk.1
  have hall : zX s M := ⟨Rp, Rl, Rk, Rw, Rt, Rd, Ro, Rq⟩
  have wall : zW s := ⟨Wp, Wl, Wk, Ww, Wt, Wd, Wo, Wq⟩
  refine jr_entry RX7 (by decide +kernel) (Nat.le_of_ble_eq_true rfl) (fun g hg => ?_)
  refine jr_lv (lv' := [(0, .ref (E.1 7)), (1, .int k), (2, .int w)]) [0, 1, 2] rfl ?_
  refine jr_aload_n hg 0 rfl rfl dX7_about_0 ?_
  refine gf_X7_40 hg (hI 7 (by decide)) dX7_about_1 ?_
  refine jr_iload_n hg 1 rfl rfl dX7_about_4 ?_
  refine jr_cV1v hg lk_X7_162 (hI 3 (by decide)) rfl rfl (by decide) (by decide) (Nat.le_of_ble_eq_true rfl) dX7_about_5 (c_X3_has hI Rk Wk k) ?_
  refine jr_if_neZ (tgt := 15) hg dX7_about_8 (by decide) (fun h8 => ?_) (fun h8 => ?_)
  · obtain ⟨k1, hk, rfl⟩ := zin_of (by omega) h8
    refine jr_iload_n hg 2 rfl rfl dX7_about_15 ?_
    rcases zcase w 4 with hw | ⟨w0, hw, hw2, rfl⟩ | ⟨w0, hw, hw2, rfl⟩
    · refine jr_tabOut (tgt := 87) hg dX7_about_16 (Or.inl (zneg_ti hw)) (by decide) ?_
      refine jr_sipush hg (-1002) dX7_about_87 (by decide) ?_
      exact jr_iret hg rfl dX7_about_90 (zq_ok (by rw [zq_about, if_pos h8, if_neg (by rw [zin_neg hw]; simp)]) hall)
    · rcases (show w0 = 0 ∨ w0 = 1 ∨ w0 = 2 ∨ w0 = 3 by omega) with rfl | rfl | rfl | rfl
      · refine jr_tabIn (tgt := 48) hg dX7_about_16 (by decide) (by decide) rfl (by decide) ?_
        refine jr_aload_n hg 0 rfl rfl dX7_about_48 ?_
        refine gf_X7_40 hg (hI 7 (by decide)) dX7_about_49 ?_
        refine jr_iload_n hg 1 rfl rfl dX7_about_52 ?_
        refine jr_cV1v hg lk_X7_163 (hI 3 (by decide)) rfl rfl (by decide) (by decide) (Nat.le_of_ble_eq_true rfl) dX7_about_53 (c_X3_lookerOf hI Rk Wk hk) ?_
        exact jr_iret hg rfl dX7_about_56 (zq_ok (by rw [zq_about, if_pos h8, zn_nI (j := k1) (by omega), if_pos (by decide), show zn (nI 0) = 0 by decide]; rfl) hall)
      · refine jr_tabIn (tgt := 57) hg dX7_about_16 (by decide) (by decide) rfl (by decide) ?_
        refine jr_aload_n hg 0 rfl rfl dX7_about_57 ?_
        refine gf_X7_40 hg (hI 7 (by decide)) dX7_about_58 ?_
        refine jr_iload_n hg 1 rfl rfl dX7_about_61 ?_
        refine jr_cV1v hg lk_X7_166 (hI 3 (by decide)) rfl rfl (by decide) (by decide) (Nat.le_of_ble_eq_true rfl) dX7_about_62 (c_X3_pictureOf hI Rk Wk hk) ?_
        exact jr_iret hg rfl dX7_about_65 (zq_ok (by rw [zq_about, if_pos h8, zn_nI (j := k1) (by omega), if_pos (by decide), show zn (nI 1) = 1 by decide]; rfl) hall)
      · refine jr_tabIn (tgt := 66) hg dX7_about_16 (by decide) (by decide) rfl (by decide) ?_
        refine jr_aload_n hg 0 rfl rfl dX7_about_66 ?_
        refine gf_X7_40 hg (hI 7 (by decide)) dX7_about_67 ?_
        refine jr_iload_n hg 1 rfl rfl dX7_about_70 ?_
        refine jr_cV1v hg lk_X7_169 (hI 3 (by decide)) rfl rfl (by decide) (by decide) (Nat.le_of_ble_eq_true rfl) dX7_about_71 (c_X3_answerOf hI Rk Wk hk) ?_
        exact jr_iret hg rfl dX7_about_74 (zq_ok (by rw [zq_about, if_pos h8, zn_nI (j := k1) (by omega), if_pos (by decide), show zn (nI 2) = 2 by decide]; rfl) hall)
      · refine jr_tabIn (tgt := 75) hg dX7_about_16 (by decide) (by decide) rfl (by decide) ?_
        refine jr_aload_n hg 0 rfl rfl dX7_about_75 ?_
        refine gf_X7_40 hg (hI 7 (by decide)) dX7_about_76 ?_
        refine jr_iload_n hg 1 rfl rfl dX7_about_79 ?_
        refine jr_cV1v hg lk_X7_172 (hI 3 (by decide)) rfl rfl (by decide) (by decide) (Nat.le_of_ble_eq_true rfl) dX7_about_80 (c_X3_counts hI Rk Wk hk) ?_
        refine jr_cS1v hg lk_X7_131 (by decide) (by decide) (Nat.le_of_ble_eq_true rfl) dX7_about_83 (c_X7_oneIf hI (Bool.toNat_le _)) ?_
        exact jr_iret hg rfl dX7_about_86 (zq_ok (by rw [zq_about, if_pos h8, zn_nI (j := k1) (by omega), if_pos (by decide), show zn (nI 3) = 3 by decide]; rfl) hall)
    · refine jr_tabOut (tgt := 87) hg dX7_about_16 (Or.inr (by rw [nI_toInt hw2]; omega)) (by decide) ?_
      refine jr_sipush hg (-1002) dX7_about_87 (by decide) ?_
      exact jr_iret hg rfl dX7_about_90 (zq_ok (by rw [zq_about, if_pos h8, if_neg (by rw [zin_f hw hw2]; simp)]) hall)
  · refine jr_sipush hg (-1001) dX7_about_11 (by decide) ?_
    exact jr_iret hg rfl dX7_about_14 (zq_ok (if_neg (by rw [h8]; simp)) hall)

set_option maxRecDepth 100000 in
theorem c_X7_next {E : mm_E} (hI : mm_FX E) {M : mm_M} {s : zS} (hR : zX s M) (hW : zW s) (l r : Int32) : mm_Cal E mX7_next [.ref (E.1 7), .int l, .int r] M (fun v M' => v = some (.int (zq_next s l r).1) ∧ zX (zq_next s l r).2 M') := by
  obtain ⟨Rp, Rl, Rk, Rw, Rt, Rd, Ro, Rq⟩ := hR
  obtain ⟨Wp, Wl, Wk, Ww, Wt, Wd, Wo, Wq⟩ := hW
  have hnp := Wp.1
  have hnl := Wl.1
  have hnk := Wk.1
  have hall : zX s M := ⟨Rp, Rl, Rk, Rw, Rt, Rd, Ro, Rq⟩
  have wall : zW s := ⟨Wp, Wl, Wk, Ww, Wt, Wd, Wo, Wq⟩
  refine jr_entry RX7 (by decide +kernel) (Nat.le_of_ble_eq_true rfl) (fun g hg => ?_)
  refine jr_lv (lv' := [(0, .ref (E.1 7)), (1, .int l), (2, .int r)]) [0, 1, 2] rfl ?_
  refine jr_aload_n hg 0 rfl rfl dX7_next_0 ?_
  refine gf_X7_33 hg (hI 7 (by decide)) dX7_next_1 ?_
  refine jr_iload_n hg 1 rfl rfl dX7_next_4 ?_
  refine jr_cV1v hg lk_X7_147 (hI 2 (by decide)) rfl rfl (by decide) (by decide) (Nat.le_of_ble_eq_true rfl) dX7_next_5 (c_X2_has hI Rl Wl l) ?_
  refine jr_if_neZ (tgt := 15) hg dX7_next_8 (by decide) (fun h8 => ?_) (fun h8 => ?_)
  · refine jr_iload_n hg 2 rfl rfl dX7_next_15 ?_
    refine jr_cS1v hg lk_X7_175 (by decide) (by decide) (Nat.le_of_ble_eq_true rfl) dX7_next_16 (c_X7_isRule hI r) ?_
    refine jr_if_eqZ (tgt := 31) hg dX7_next_19 (by decide) (fun h19 => ?_) (fun h19 => ?_)
    · refine jr_sipush hg (-1002) dX7_next_31 (by decide) ?_
      exact jr_iret hg rfl dX7_next_34 (zq_ok (by rw [zq_next, if_pos h8, if_neg (by rw [h19]; simp)]) hall)
    · obtain ⟨l1, hl, rfl⟩ := zin_of (by omega) h8
      obtain ⟨r1, hr, rfl⟩ := zin_of (by decide) h19
      refine jr_aload_n hg 0 rfl rfl dX7_next_22 ?_
      refine jr_iload_n hg 1 rfl rfl dX7_next_23 ?_
      refine jr_iload_n hg 2 rfl rfl dX7_next_24 ?_
      refine jr_cV2v hg lk_X7_178 (hI 7 (by decide)) rfl rfl (by decide) (by decide) (Nat.le_of_ble_eq_true rfl) dX7_next_25 (c_X7_shownNext hI hall wall hl (by omega)) ?_
      refine jr_goto (tgt := 34) hg dX7_next_28 (by decide) ?_
      exact jr_iret hg rfl dX7_next_34 (zq_ok (by rw [zq_next, if_pos h8, if_pos h19, zn_nI (by omega), zn_nI (by omega)]) hall)
  · refine jr_sipush hg (-1001) dX7_next_11 (by decide) ?_
    exact jr_iret hg rfl dX7_next_14 (zq_ok (if_neg (by rw [h8]; simp)) hall)

set_option maxRecDepth 100000 in
theorem c_X7_evening {E : mm_E} (hI : mm_FX E) {M : mm_M} {s : zS} (hR : zX s M) (hW : zW s) (S n r : Int32) : mm_Cal E mX7_evening [.ref (E.1 7), .int S, .int n, .int r] M (fun v M' => v = some (.int (zq_evening s S n r).1) ∧ zX (zq_evening s S n r).2 M') := by
  obtain ⟨Rp, Rl, Rk, Rw, Rt, Rd, Ro, Rq⟩ := hR
  obtain ⟨Wp, Wl, Wk, Ww, Wt, Wd, Wo, Wq⟩ := hW
  have hnp := Wp.1
  have hnl := Wl.1
  have hnk := Wk.1
  have hall : zX s M := ⟨Rp, Rl, Rk, Rw, Rt, Rd, Ro, Rq⟩
  have wall : zW s := ⟨Wp, Wl, Wk, Ww, Wt, Wd, Wo, Wq⟩
  refine jr_entry RX7 (by decide +kernel) (Nat.le_of_ble_eq_true rfl) (fun g hg => ?_)
  refine jr_lv (lv' := [(0, .ref (E.1 7)), (1, .int S), (2, .int n), (3, .int r)]) [0, 1, 2, 3] rfl ?_
  refine jr_iload_n hg 1 rfl rfl dX7_evening_0 ?_
  refine jr_aload_n hg 0 rfl rfl dX7_evening_1 ?_
  refine gf_X7_33 hg (hI 7 (by decide)) dX7_evening_2 ?_
  refine jr_cV0v hg lk_X7_108 (hI 2 (by decide)) rfl rfl (by decide) (by decide) (Nat.le_of_ble_eq_true rfl) dX7_evening_5 (c_X2_size hI Rl Wl) ?_
  refine jr_cS2v hg lk_X7_181 (by decide) (by decide) (Nat.le_of_ble_eq_true rfl) dX7_evening_8 (c_X7_isPart hI S hnl) ?_
  refine jr_if_neZ (tgt := 18) hg dX7_evening_11 (by decide) (fun h11 => ?_) (fun h11 => ?_)
  · refine jr_iload_n hg 2 rfl rfl dX7_evening_18 ?_
    refine jr_iconst hg (nI 1) dX7_evening_19 (by decide) ?_
    refine jr_bipush hg (nI 20) dX7_evening_20 (by decide) ?_
    refine jr_cS3v hg lk_X7_62 (by decide) (by decide) (Nat.le_of_ble_eq_true rfl) dX7_evening_22 (c_X7_isWithinW hI n (lo := 1) (hi := 20) (by decide) (by decide)) ?_
    refine jr_if_eqZ (tgt := 35) hg dX7_evening_25 (by decide) (fun h25 => ?_) (fun h25 => ?_)
    · refine jr_sipush hg (-1002) dX7_evening_35 (by decide) ?_
      exact jr_iret hg rfl dX7_evening_38 (zq_ok (by rw [zq_evening, if_pos h11, if_neg (by rw [h25]; simp)]) hall)
    · refine jr_iload_n hg 3 rfl rfl dX7_evening_28 ?_
      refine jr_cS1v hg lk_X7_175 (by decide) (by decide) (Nat.le_of_ble_eq_true rfl) dX7_evening_29 (c_X7_isRule hI r) ?_
      refine jr_if_neZ (tgt := 39) hg dX7_evening_32 (by decide) (fun h32 => ?_) (fun h32 => ?_)
      · have hp8 := zpow8 hnl
        obtain ⟨S1, hS, rfl⟩ := zin_of (by omega) h11
        obtain ⟨n1, hn1, hn, rfl⟩ := zwi_of (by decide) h25
        obtain ⟨r1, hr, rfl⟩ := zin_of (by decide) h32
        refine jr_aload_n hg 0 rfl rfl dX7_evening_39 ?_
        refine gf_X7_40 hg (hI 7 (by decide)) dX7_evening_40 ?_
        refine jr_cV0v hg lk_X7_109 (hI 3 (by decide)) rfl rfl (by decide) (by decide) (Nat.le_of_ble_eq_true rfl) dX7_evening_43 (c_X3_size hI Rk Wk) ?_
        refine jr_istore hg dX7_evening_46 (by decide) rfl ?_
        refine jr_iconst hg (nI 0) dX7_evening_48 (by decide) ?_
        refine jr_istore hg dX7_evening_49 (by decide) rfl ?_
        have lp51 : ∀ j : Nat, j ≤ n1 → ∀ M1, zX (z_ev s S1 r1 j) M1 → mm_J g E mX7_evening (fun v M' => v = some (.int (zq_evening s (nI S1) (nI n1) (nI r1)).1) ∧ zX (zq_evening s (nI S1) (nI n1) (nI r1)).2 M') 51 [(0, .ref (E.1 7)), (1, .int (nI S1)), (2, .int (nI n1)), (3, .int (nI r1)), (4, .int (nI ((s 0 2)))), (5, .int (nI j))] [] (M1) := by
          refine jr_up (S := fun j => ∀ M1, zX (z_ev s S1 r1 j) M1 → mm_J g E mX7_evening (fun v M' => v = some (.int (zq_evening s (nI S1) (nI n1) (nI r1)).1) ∧ zX (zq_evening s (nI S1) (nI n1) (nI r1)).2 M') 51 [(0, .ref (E.1 7)), (1, .int (nI S1)), (2, .int (nI n1)), (3, .int (nI r1)), (4, .int (nI ((s 0 2)))), (5, .int (nI j))] [] (M1)) (n := n1) ?_ ?_
          · intro M1 hX
            show mm_J g E mX7_evening (fun v M' => v = some (.int (zq_evening s (nI S1) (nI n1) (nI r1)).1) ∧ zX (zq_evening s (nI S1) (nI n1) (nI r1)).2 M') 51 [(0, .ref (E.1 7)), (1, .int (nI S1)), (2, .int (nI n1)), (3, .int (nI r1)), (4, .int (nI ((s 0 2)))), (5, .int (nI (n1)))] [] (M1)
            have hu := zW_ev wall S1 r1 n1
            have hk := (z_ev_keep s S1 r1 n1).2.2
            refine jr_iload hg 5 rfl dX7_evening_51 ?_
            refine jr_iload_n hg 2 rfl rfl dX7_evening_53 ?_
            refine jr_icmp_geN (tgt := 69) hg dX7_evening_54 (by decide) (by omega) (by omega) (fun h54 => ?_) (fun h => by omega)
            refine jr_aload_n hg 0 rfl rfl dX7_evening_69 ?_
            refine gf_X7_40 hg (hI 7 (by decide)) dX7_evening_70 ?_
            refine jr_cV0v hg lk_X7_109 (hI 3 (by decide)) rfl rfl (by decide) (by decide) (Nat.le_of_ble_eq_true rfl) dX7_evening_73 (c_X3_size hI hX.2.2.1 hu.2.2.1) ?_
            refine jr_iload hg 4 rfl dX7_evening_76 ?_
            refine jr_isubN hg dX7_evening_78 hk ?_
            exact jr_iret hg rfl dX7_evening_79 (zq_ok (by rw [zq_evening, if_pos h11, if_pos (by rw [h25, h32]; rfl), zn_nI (by omega), zn_nI (by omega), zn_nI (by omega)]) hX)
          · intro j hj ih M1 hX
            show mm_J g E mX7_evening (fun v M' => v = some (.int (zq_evening s (nI S1) (nI n1) (nI r1)).1) ∧ zX (zq_evening s (nI S1) (nI n1) (nI r1)).2 M') 51 [(0, .ref (E.1 7)), (1, .int (nI S1)), (2, .int (nI n1)), (3, .int (nI r1)), (4, .int (nI ((s 0 2)))), (5, .int (nI j))] [] (M1)
            have hu := zW_ev wall S1 r1 j
            refine jr_iload hg 5 rfl dX7_evening_51 ?_
            refine jr_iload_n hg 2 rfl rfl dX7_evening_53 ?_
            refine jr_icmp_geN (tgt := 69) hg dX7_evening_54 (by decide) (by omega) (by omega) (fun h => by omega) (fun h54 => ?_)
            refine jr_aload_n hg 0 rfl rfl dX7_evening_57 ?_
            refine jr_iload_n hg 1 rfl rfl dX7_evening_58 ?_
            refine jr_iload_n hg 3 rfl rfl dX7_evening_59 ?_
            refine jr_cV2p hg lk_X7_185 (hI 7 (by decide)) rfl rfl (by decide) (by decide) (Nat.le_of_ble_eq_true rfl) dX7_evening_60 (c_X7_takeTurn hI hX hu (by omega) (by omega)) (fun r M' h => ?_)
            obtain ⟨rfl, h, -⟩ := h
            refine jr_st (show _ = [] from rfl) ?_
            refine jr_iinc hg 5 rfl (nI (_ + 1)) (nI_1 _) dX7_evening_63 (by decide) rfl ?_
            refine jr_goto (tgt := 51) hg dX7_evening_66 (by decide) ?_
            exact jr_lv [1, 2, 3, 4, 5, 0] rfl (ih M' h)
        exact jr_lv [2, 3, 4, 5, 1, 0] rfl (lp51 0 (by omega) M hall)
      · refine jr_sipush hg (-1002) dX7_evening_35 (by decide) ?_
        exact jr_iret hg rfl dX7_evening_38 (zq_ok (by rw [zq_evening, if_pos h11, if_neg (by rw [h25, h32]; simp)]) hall)
  · refine jr_sipush hg (-1001) dX7_evening_14 (by decide) ?_
    exact jr_iret hg rfl dX7_evening_17 (zq_ok (if_neg (by rw [h11]; simp)) hall)

set_option maxRecDepth 100000 in
theorem c_X7_stays {E : mm_E} (hI : mm_FX E) {M : mm_M} {s : zS} (hR : zX s M) (hW : zW s) (l : Int32) : mm_Cal E mX7_stays [.ref (E.1 7), .int l] M (fun v M' => v = some (.int (zq_stays s l).1) ∧ zX (zq_stays s l).2 M') := by
  obtain ⟨Rp, Rl, Rk, Rw, Rt, Rd, Ro, Rq⟩ := hR
  obtain ⟨Wp, Wl, Wk, Ww, Wt, Wd, Wo, Wq⟩ := hW
  have hnp := Wp.1
  have hnl := Wl.1
  have hnk := Wk.1
  have hall : zX s M := ⟨Rp, Rl, Rk, Rw, Rt, Rd, Ro, Rq⟩
  have wall : zW s := ⟨Wp, Wl, Wk, Ww, Wt, Wd, Wo, Wq⟩
  refine jr_entry RX7 (by decide +kernel) (Nat.le_of_ble_eq_true rfl) (fun g hg => ?_)
  refine jr_lv (lv' := [(0, .ref (E.1 7)), (1, .int l)]) [0, 1] rfl ?_
  refine jr_aload_n hg 0 rfl rfl dX7_stays_0 ?_
  refine gf_X7_33 hg (hI 7 (by decide)) dX7_stays_1 ?_
  refine jr_iload_n hg 1 rfl rfl dX7_stays_4 ?_
  refine jr_cV1v hg lk_X7_147 (hI 2 (by decide)) rfl rfl (by decide) (by decide) (Nat.le_of_ble_eq_true rfl) dX7_stays_5 (c_X2_has hI Rl Wl l) ?_
  refine jr_if_eqZ (tgt := 22) hg dX7_stays_8 (by decide) (fun h8 => ?_) (fun h8 => ?_)
  · refine jr_sipush hg (-1001) dX7_stays_22 (by decide) ?_
    exact jr_iret hg rfl dX7_stays_25 (zq_ok (if_neg (by rw [h8]; simp)) hall)
  · obtain ⟨l1, hl, rfl⟩ := zin_of (by omega) h8
    refine jr_aload_n hg 0 rfl rfl dX7_stays_11 ?_
    refine jr_iload_n hg 1 rfl rfl dX7_stays_12 ?_
    refine jr_cV1v hg lk_X7_189 (hI 7 (by decide)) rfl rfl (by decide) (by decide) (Nat.le_of_ble_eq_true rfl) dX7_stays_13 (c_X7_keepsOn hI hall wall hl) ?_
    refine jr_cS1v hg lk_X7_131 (by decide) (by decide) (Nat.le_of_ble_eq_true rfl) dX7_stays_16 (c_X7_oneIf hI (Bool.toNat_le _)) ?_
    refine jr_goto (tgt := 25) hg dX7_stays_19 (by decide) ?_
    exact jr_iret hg rfl dX7_stays_25 (zq_ok (by rw [zq_stays, if_pos h8, zn_nI (by omega)]) hall)

set_option maxRecDepth 100000 in
theorem c_X7_reckon {E : mm_E} (hI : mm_FX E) {M : mm_M} {s : zS} (hR : zX s M) (hW : zW s) : mm_Cal E mX7_reckon [.ref (E.1 7)] M (fun v M' => v = some (.int (zq_reckon s).1) ∧ zX (zq_reckon s).2 M') := by
  obtain ⟨Rp, Rl, Rk, Rw, Rt, Rd, Ro, Rq⟩ := hR
  obtain ⟨Wp, Wl, Wk, Ww, Wt, Wd, Wo, Wq⟩ := hW
  have hnp := Wp.1
  have hnl := Wl.1
  have hnk := Wk.1
  have hall : zX s M := ⟨Rp, Rl, Rk, Rw, Rt, Rd, Ro, Rq⟩
  have wall : zW s := ⟨Wp, Wl, Wk, Ww, Wt, Wd, Wo, Wq⟩
  refine jr_entry RX7 (by decide +kernel) (Nat.le_of_ble_eq_true rfl) (fun g hg => ?_)
  refine jr_lv (lv' := [(0, .ref (E.1 7))]) [0] rfl ?_
  refine jr_aload_n hg 0 rfl rfl dX7_reckon_0 ?_
  refine gf_X7_47 hg (hI 7 (by decide)) dX7_reckon_1 ?_
  refine jr_aload_n hg 0 rfl rfl dX7_reckon_4 ?_
  refine gf_X7_26 hg (hI 7 (by decide)) dX7_reckon_5 ?_
  refine jr_aload_n hg 0 rfl rfl dX7_reckon_8 ?_
  refine gf_X7_40 hg (hI 7 (by decide)) dX7_reckon_9 ?_
  refine jr_cV2p hg lk_X7_192 (hI 6 (by decide)) rfl rfl (by decide) (by decide) (Nat.le_of_ble_eq_true rfl) dX7_reckon_12 (c_X6_settle hI hall wall) (fun r M' h => ?_)
  obtain ⟨rfl, h, -⟩ := h
  refine jr_st (show _ = [Value.int (z_rk s).2] from rfl) ?_
  exact jr_iret hg rfl dX7_reckon_15 (zq_ok rfl h)

set_option maxRecDepth 100000 in
theorem c_X7_odds {E : mm_E} (hI : mm_FX E) {M : mm_M} {s : zS} (hR : zX s M) (hW : zW s) (p k : Int32) : mm_Cal E mX7_odds [.ref (E.1 7), .int p, .int k] M (fun v M' => v = some (.int (zq_odds s p k).1) ∧ zX (zq_odds s p k).2 M') := by
  obtain ⟨Rp, Rl, Rk, Rw, Rt, Rd, Ro, Rq⟩ := hR
  obtain ⟨Wp, Wl, Wk, Ww, Wt, Wd, Wo, Wq⟩ := hW
  have hnp := Wp.1
  have hnl := Wl.1
  have hnk := Wk.1
  have hall : zX s M := ⟨Rp, Rl, Rk, Rw, Rt, Rd, Ro, Rq⟩
  have wall : zW s := ⟨Wp, Wl, Wk, Ww, Wt, Wd, Wo, Wq⟩
  refine jr_entry RX7 (by decide +kernel) (Nat.le_of_ble_eq_true rfl) (fun g hg => ?_)
  refine jr_lv (lv' := [(0, .ref (E.1 7)), (1, .int p), (2, .int k)]) [0, 1, 2] rfl ?_
  refine jr_aload_n hg 0 rfl rfl dX7_odds_0 ?_
  refine gf_X7_26 hg (hI 7 (by decide)) dX7_odds_1 ?_
  refine jr_iload_n hg 1 rfl rfl dX7_odds_4 ?_
  refine jr_cV1v hg lk_X7_70 (hI 4 (by decide)) rfl rfl (by decide) (by decide) (Nat.le_of_ble_eq_true rfl) dX7_odds_5 (c_X4_has hI Rp Wp p) ?_
  refine jr_if_neZ (tgt := 15) hg dX7_odds_8 (by decide) (fun h8 => ?_) (fun h8 => ?_)
  · refine jr_iload_n hg 2 rfl rfl dX7_odds_15 ?_
    refine jr_cS1v hg lk_X7_58 (by decide) (by decide) (Nat.le_of_ble_eq_true rfl) dX7_odds_16 (c_X7_isKind hI k) ?_
    refine jr_if_eqZ (tgt := 34) hg dX7_odds_19 (by decide) (fun h19 => ?_) (fun h19 => ?_)
    · refine jr_sipush hg (-1002) dX7_odds_34 (by decide) ?_
      exact jr_iret hg rfl dX7_odds_37 (zq_ok (by rw [zq_odds, if_pos h8, if_neg (by rw [h19]; simp)]) hall)
    · obtain ⟨p1, hp, rfl⟩ := zin_of (by omega) h8
      obtain ⟨k1, hk, rfl⟩ := zin_of (by decide) h19
      refine jr_aload_n hg 0 rfl rfl dX7_odds_22 ?_
      refine gf_X7_47 hg (hI 7 (by decide)) dX7_odds_23 ?_
      refine jr_iload_n hg 1 rfl rfl dX7_odds_26 ?_
      refine jr_iload_n hg 2 rfl rfl dX7_odds_27 ?_
      refine jr_cV2v hg lk_X7_196 (hI 6 (by decide)) rfl rfl (by decide) (by decide) (Nat.le_of_ble_eq_true rfl) dX7_odds_28 (c_X6_oddsOf hI Ro Wo (by omega) (by omega)) ?_
      refine jr_goto (tgt := 37) hg dX7_odds_31 (by decide) ?_
      exact jr_iret hg rfl dX7_odds_37 (zq_ok (by rw [zq_odds, if_pos h8, if_pos h19, zn_nI (by omega), zn_nI (by omega)]) hall)
  · refine jr_sipush hg (-1001) dX7_odds_11 (by decide) ?_
    exact jr_iret hg rfl dX7_odds_14 (zq_ok (if_neg (by rw [h8]; simp)) hall)

set_option maxRecDepth 100000 in
theorem c_X7_table {E : mm_E} (hI : mm_FX E) {M : mm_M} {s : zS} (hR : zX s M) (hW : zW s) (l k a : Int32) : mm_Cal E mX7_table [.ref (E.1 7), .int l, .int k, .int a] M (fun v M' => v = some (.int (zq_table s l k a).1) ∧ zX (zq_table s l k a).2 M') := by
  obtain ⟨Rp, Rl, Rk, Rw, Rt, Rd, Ro, Rq⟩ := hR
  obtain ⟨Wp, Wl, Wk, Ww, Wt, Wd, Wo, Wq⟩ := hW
  have hnp := Wp.1
  have hnl := Wl.1
  have hnk := Wk.1
  have hall : zX s M := ⟨Rp, Rl, Rk, Rw, Rt, Rd, Ro, Rq⟩
  have wall : zW s := ⟨Wp, Wl, Wk, Ww, Wt, Wd, Wo, Wq⟩
  refine jr_entry RX7 (by decide +kernel) (Nat.le_of_ble_eq_true rfl) (fun g hg => ?_)
  refine jr_lv (lv' := [(0, .ref (E.1 7)), (1, .int l), (2, .int k), (3, .int a)]) [0, 1, 2, 3] rfl ?_
  refine jr_aload_n hg 0 rfl rfl dX7_table_0 ?_
  refine gf_X7_33 hg (hI 7 (by decide)) dX7_table_1 ?_
  refine jr_iload_n hg 1 rfl rfl dX7_table_4 ?_
  refine jr_cV1v hg lk_X7_147 (hI 2 (by decide)) rfl rfl (by decide) (by decide) (Nat.le_of_ble_eq_true rfl) dX7_table_5 (c_X2_has hI Rl Wl l) ?_
  refine jr_if_neZ (tgt := 15) hg dX7_table_8 (by decide) (fun h8 => ?_) (fun h8 => ?_)
  · refine jr_iload_n hg 2 rfl rfl dX7_table_15 ?_
    refine jr_cS1v hg lk_X7_58 (by decide) (by decide) (Nat.le_of_ble_eq_true rfl) dX7_table_16 (c_X7_isKind hI k) ?_
    refine jr_if_eqZ (tgt := 31) hg dX7_table_19 (by decide) (fun h19 => ?_) (fun h19 => ?_)
    · refine jr_sipush hg (-1002) dX7_table_31 (by decide) ?_
      exact jr_iret hg rfl dX7_table_34 (zq_ok (by rw [zq_table, if_pos h8, if_neg (by rw [h19]; simp)]) hall)
    · refine jr_iload_n hg 3 rfl rfl dX7_table_22 ?_
      refine jr_iconst hg (nI 0) dX7_table_23 (by decide) ?_
      refine jr_iconst hg (nI 3) dX7_table_24 (by decide) ?_
      refine jr_cS3v hg lk_X7_62 (by decide) (by decide) (Nat.le_of_ble_eq_true rfl) dX7_table_25 (c_X7_isWithin0 hI a (by decide)) ?_
      refine jr_if_neZ (tgt := 35) hg dX7_table_28 (by decide) (fun h28 => ?_) (fun h28 => ?_)
      · obtain ⟨l1, hl, rfl⟩ := zin_of (by omega) h8
        obtain ⟨k1, hk, rfl⟩ := zin_of (by decide) h19
        obtain ⟨a1, ha, rfl⟩ := zin_of (by decide) h28
        refine jr_aload_n hg 0 rfl rfl dX7_table_35 ?_
        refine gf_X7_47 hg (hI 7 (by decide)) dX7_table_36 ?_
        refine jr_iload_n hg 1 rfl rfl dX7_table_39 ?_
        refine jr_iload_n hg 2 rfl rfl dX7_table_40 ?_
        refine jr_iload_n hg 3 rfl rfl dX7_table_41 ?_
        refine jr_cV3v hg lk_X7_199 (hI 6 (by decide)) rfl rfl (by decide) (by decide) (Nat.le_of_ble_eq_true rfl) dX7_table_42 (c_X6_tableOf hI Ro Wo (by omega) (by omega) (by omega)) ?_
        exact jr_iret hg rfl dX7_table_45 (zq_ok (by rw [zq_table, if_pos h8, if_pos (by rw [h19, h28]; rfl), zn_nI (by omega), zn_nI (by omega), zn_nI (by omega)]) hall)
      · refine jr_sipush hg (-1002) dX7_table_31 (by decide) ?_
        exact jr_iret hg rfl dX7_table_34 (zq_ok (by rw [zq_table, if_pos h8, if_neg (by rw [h19, h28]; simp)]) hall)
  · refine jr_sipush hg (-1001) dX7_table_11 (by decide) ?_
    exact jr_iret hg rfl dX7_table_14 (zq_ok (if_neg (by rw [h8]; simp)) hall)

set_option maxRecDepth 100000 in
theorem c_X7_sky {E : mm_E} (hI : mm_FX E) {M : mm_M} {s : zS} (hR : zX s M) (hW : zW s) (k : Int32) : mm_Cal E mX7_sky [.ref (E.1 7), .int k] M (fun v M' => v = some (.int (zq_sky s k).1) ∧ zX (zq_sky s k).2 M') := by
  obtain ⟨Rp, Rl, Rk, Rw, Rt, Rd, Ro, Rq⟩ := hR
  obtain ⟨Wp, Wl, Wk, Ww, Wt, Wd, Wo, Wq⟩ := hW
  have hnp := Wp.1
  have hnl := Wl.1
  have hnk := Wk.1
  have hall : zX s M := ⟨Rp, Rl, Rk, Rw, Rt, Rd, Ro, Rq⟩
  have wall : zW s := ⟨Wp, Wl, Wk, Ww, Wt, Wd, Wo, Wq⟩
  refine jr_entry RX7 (by decide +kernel) (Nat.le_of_ble_eq_true rfl) (fun g hg => ?_)
  refine jr_lv (lv' := [(0, .ref (E.1 7)), (1, .int k)]) [0, 1] rfl ?_
  refine jr_iload_n hg 1 rfl rfl dX7_sky_0 ?_
  refine jr_cS1v hg lk_X7_58 (by decide) (by decide) (Nat.le_of_ble_eq_true rfl) dX7_sky_1 (c_X7_isKind hI k) ?_
  refine jr_if_eqZ (tgt := 18) hg dX7_sky_4 (by decide) (fun h4 => ?_) (fun h4 => ?_)
  · refine jr_sipush hg (-1002) dX7_sky_18 (by decide) ?_
    exact jr_iret hg rfl dX7_sky_21 (zq_ok (if_neg (by rw [h4]; simp)) hall)
  · obtain ⟨k1, hk, rfl⟩ := zin_of (by decide) h4
    refine jr_aload_n hg 0 rfl rfl dX7_sky_7 ?_
    refine gf_X7_47 hg (hI 7 (by decide)) dX7_sky_8 ?_
    refine jr_iload_n hg 1 rfl rfl dX7_sky_11 ?_
    refine jr_cV1v hg lk_X7_202 (hI 6 (by decide)) rfl rfl (by decide) (by decide) (Nat.le_of_ble_eq_true rfl) dX7_sky_12 (c_X6_skyOf hI Ro Wo (by omega)) ?_
    refine jr_goto (tgt := 21) hg dX7_sky_15 (by decide) ?_
    exact jr_iret hg rfl dX7_sky_21 (zq_ok (by rw [zq_sky, if_pos h4, zn_nI (by omega)]) hall)

theorem z_fs_le {s : zS} (h : zW_o s) {k : Nat} (hk : k < 3) {n : Nat} (hn : n ≤ 24) : z_fs s k n ≤ n * 1000 := by
  apply zsum_le
  intro p hp
  show (if _ then _ else _) ≤ 1000
  split
  · exact h.1 _ (by omega)
  · omega

set_option maxRecDepth 100000 in
theorem c_X7_far {E : mm_E} (hI : mm_FX E) {M : mm_M} {s : zS} (hR : zX s M) (hW : zW s) (x k : Int32) : mm_Cal E mX7_far [.ref (E.1 7), .int x, .int k] M (fun v M' => v = some (.int (zq_far s x k).1) ∧ zX (zq_far s x k).2 M') := by
  obtain ⟨Rp, Rl, Rk, Rw, Rt, Rd, Ro, Rq⟩ := hR
  obtain ⟨Wp, Wl, Wk, Ww, Wt, Wd, Wo, Wq⟩ := hW
  have hnp := Wp.1
  have hnl := Wl.1
  have hnk := Wk.1
  have hall : zX s M := ⟨Rp, Rl, Rk, Rw, Rt, Rd, Ro, Rq⟩
  have wall : zW s := ⟨Wp, Wl, Wk, Ww, Wt, Wd, Wo, Wq⟩
  have hfs : ∀ k, k < 3 → z_fs s k (s 0 0) ≤ 24000 := fun k hk => by have := z_fs_le Wo (k := k) hk (n := s 0 0) hnp; omega
  refine jr_entry RX7 (by decide +kernel) (Nat.le_of_ble_eq_true rfl) (fun g hg => ?_)
  refine jr_lv (lv' := [(0, .ref (E.1 7)), (1, .int x), (2, .int k)]) [0, 1, 2] rfl ?_
  refine jr_iload_n hg 1 rfl rfl dX7_far_0 ?_
  refine jr_iconst hg (nI 0) dX7_far_1 (by decide) ?_
  refine jr_bipush hg (nI 100) dX7_far_2 (by decide) ?_
  refine jr_cS3v hg lk_X7_62 (by decide) (by decide) (Nat.le_of_ble_eq_true rfl) dX7_far_4 (c_X7_isWithin0 hI x (by decide)) ?_
  refine jr_if_eqZ (tgt := 17) hg dX7_far_7 (by decide) (fun h7 => ?_) (fun h7 => ?_)
  · refine jr_sipush hg (-1002) dX7_far_17 (by decide) ?_
    exact jr_iret hg rfl dX7_far_20 (zq_ok (if_neg (by rw [h7]; simp)) hall)
  · refine jr_iload_n hg 2 rfl rfl dX7_far_10 ?_
    refine jr_cS1v hg lk_X7_58 (by decide) (by decide) (Nat.le_of_ble_eq_true rfl) dX7_far_11 (c_X7_isKind hI k) ?_
    refine jr_if_neZ (tgt := 21) hg dX7_far_14 (by decide) (fun h14 => ?_) (fun h14 => ?_)
    · obtain ⟨x1, hx, rfl⟩ := zin_of (by decide) h7
      obtain ⟨k1, hk, rfl⟩ := zin_of (by decide) h14
      have hf0 := hfs 0 (by decide)
      have hm : z_fs s 0 (s 0 0) * x1 ≤ z_fs s 0 (s 0 0) * 100 := Nat.mul_le_mul_left _ (by omega)
      refine jr_aload_n hg 0 rfl rfl dX7_far_21 ?_
      refine jr_iconst hg (nI 0) dX7_far_22 (by decide) ?_
      refine jr_cV1v hg lk_X7_205 (hI 7 (by decide)) rfl rfl (by decide) (by decide) (Nat.le_of_ble_eq_true rfl) dX7_far_23 (c_X7_farShare hI hall wall (by decide)) ?_
      refine jr_iload_n hg 1 rfl rfl dX7_far_26 ?_
      refine jr_imulN hg dX7_far_27 ?_
      refine jr_bipush hg (nI 100) dX7_far_28 (by decide) ?_
      refine jr_idivN hg dX7_far_30 (by omega) (by decide) (by decide) ?_
      refine jr_iconst hg (nI 2) dX7_far_31 (by decide) ?_
      refine jr_idivN hg dX7_far_32 (by omega) (by decide) (by decide) ?_
      refine jr_istore_n hg dX7_far_33 rfl (by decide) rfl ?_
      refine jr_iload_n hg 3 rfl rfl dX7_far_34 ?_
      refine jr_if_neN (tgt := 50) hg dX7_far_35 (by decide) (by omega) (fun h35 => ?_) (fun h35 => ?_)
      · refine jr_aload_n hg 1 rfl rfl dX7_far_50 ?_
        refine jr_iload_n hg 3 rfl rfl dX7_far_51 ?_
        refine jr_cV1v hg lk_X7_205 (hI 7 (by decide)) rfl rfl (by decide) (by decide) (Nat.le_of_ble_eq_true rfl) dX7_far_52 (c_X7_farShare hI hall wall hk) ?_
        refine jr_iload_n hg 0 rfl rfl dX7_far_55 ?_
        refine jr_iaddN hg dX7_far_56 ?_
        exact jr_iret hg rfl dX7_far_57 (zq_ok (by rw [zq_far, if_pos (by rw [h7, h14]; rfl), zn_nI (by omega), zn_nI (by omega), z_far, if_neg (by omega)]) hall)
      · refine jr_aload_n hg 1 rfl rfl dX7_far_38 ?_
        refine jr_iconst hg (nI 0) dX7_far_39 (by decide) ?_
        refine jr_cV1v hg lk_X7_205 (hI 7 (by decide)) rfl rfl (by decide) (by decide) (Nat.le_of_ble_eq_true rfl) dX7_far_40 (c_X7_farShare hI hall wall (by decide)) ?_
        refine jr_iconst hg (nI 2) dX7_far_43 (by decide) ?_
        refine jr_iload_n hg 0 rfl rfl dX7_far_44 ?_
        refine jr_imulN hg dX7_far_45 ?_
        refine jr_isubN hg dX7_far_46 (by omega) ?_
        refine jr_goto (tgt := 57) hg dX7_far_47 (by decide) ?_
        exact jr_iret hg rfl dX7_far_57 (zq_ok (by rw [zq_far, if_pos (by rw [h7, h14]; rfl), zn_nI (by omega), zn_nI (by omega), z_far, if_pos h35]) hall)
    · refine jr_sipush hg (-1002) dX7_far_17 (by decide) ?_
      exact jr_iret hg rfl dX7_far_20 (zq_ok (if_neg (by rw [h7, h14]; simp)) hall)

set_option maxRecDepth 100000 in
theorem c_X7_lean {E : mm_E} (hI : mm_FX E) {M : mm_M} {s : zS} (hR : zX s M) (hW : zW s) (l w : Int32) : mm_Cal E mX7_lean [.ref (E.1 7), .int l, .int w] M (fun v M' => v = some (.int (zq_lean s l w).1) ∧ zX (zq_lean s l w).2 M') := by
  obtain ⟨Rp, Rl, Rk, Rw, Rt, Rd, Ro, Rq⟩ := hR
  obtain ⟨Wp, Wl, Wk, Ww, Wt, Wd, Wo, Wq⟩ := hW
  have hnp := Wp.1
  have hnl := Wl.1
  have hnk := Wk.1
  have hall : zX s M := ⟨Rp, Rl, Rk, Rw, Rt, Rd, Ro, Rq⟩
  have wall : zW s := ⟨Wp, Wl, Wk, Ww, Wt, Wd, Wo, Wq⟩
  refine jr_entry RX7 (by decide +kernel) (Nat.le_of_ble_eq_true rfl) (fun g hg => ?_)
  refine jr_lv (lv' := [(0, .ref (E.1 7)), (1, .int l), (2, .int w)]) [0, 1, 2] rfl ?_
  refine jr_aload_n hg 0 rfl rfl dX7_lean_0 ?_
  refine gf_X7_33 hg (hI 7 (by decide)) dX7_lean_1 ?_
  refine jr_iload_n hg 1 rfl rfl dX7_lean_4 ?_
  refine jr_cV1v hg lk_X7_147 (hI 2 (by decide)) rfl rfl (by decide) (by decide) (Nat.le_of_ble_eq_true rfl) dX7_lean_5 (c_X2_has hI Rl Wl l) ?_
  refine jr_if_neZ (tgt := 15) hg dX7_lean_8 (by decide) (fun h8 => ?_) (fun h8 => ?_)
  · refine jr_iload_n hg 2 rfl rfl dX7_lean_15 ?_
    refine jr_iconst hg (nI 0) dX7_lean_16 (by decide) ?_
    refine jr_iconst hg (nI 1) dX7_lean_17 (by decide) ?_
    refine jr_cS3v hg lk_X7_62 (by decide) (by decide) (Nat.le_of_ble_eq_true rfl) dX7_lean_18 (c_X7_isWithin0 hI w (by decide)) ?_
    refine jr_if_neZ (tgt := 28) hg dX7_lean_21 (by decide) (fun h21 => ?_) (fun h21 => ?_)
    · obtain ⟨l1, hl, rfl⟩ := zin_of (by omega) h8
      obtain ⟨w1, hw, rfl⟩ := zin_of (by decide) h21
      have c11 := zcnt_le (z_mp s l1 1 1) (s 0 0)
      have c22 := zcnt_le (z_mp s l1 2 2) (s 0 0)
      have c12 := zcnt_le (z_mp s l1 1 2) (s 0 0)
      have c21 := zcnt_le (z_mp s l1 2 1) (s 0 0)
      have hpa : z_pa s l1 = zcnt (z_mp s l1 1 1) (s 0 0) + zcnt (z_mp s l1 2 2) (s 0 0) + zcnt (z_mp s l1 1 2) (s 0 0) + zcnt (z_mp s l1 2 1) (s 0 0) := rfl
      refine jr_aload_n hg 0 rfl rfl dX7_lean_28 ?_
      refine jr_iload_n hg 1 rfl rfl dX7_lean_29 ?_
      refine jr_iconst hg (nI 1) dX7_lean_30 (by decide) ?_
      refine jr_iconst hg (nI 1) dX7_lean_31 (by decide) ?_
      refine jr_cV3v hg lk_X7_208 (hI 7 (by decide)) rfl rfl (by decide) (by decide) (Nat.le_of_ble_eq_true rfl) dX7_lean_32 (c_X7_mirrorPairs hI hall wall hl (by decide) (by decide)) ?_
      refine jr_aload_n hg 0 rfl rfl dX7_lean_35 ?_
      refine jr_iload_n hg 1 rfl rfl dX7_lean_36 ?_
      refine jr_iconst hg (nI 2) dX7_lean_37 (by decide) ?_
      refine jr_iconst hg (nI 2) dX7_lean_38 (by decide) ?_
      refine jr_cV3v hg lk_X7_208 (hI 7 (by decide)) rfl rfl (by decide) (by decide) (Nat.le_of_ble_eq_true rfl) dX7_lean_39 (c_X7_mirrorPairs hI hall wall hl (by decide) (by decide)) ?_
      refine jr_iaddN hg dX7_lean_42 ?_
      refine jr_aload_n hg 0 rfl rfl dX7_lean_43 ?_
      refine jr_iload_n hg 1 rfl rfl dX7_lean_44 ?_
      refine jr_iconst hg (nI 1) dX7_lean_45 (by decide) ?_
      refine jr_iconst hg (nI 2) dX7_lean_46 (by decide) ?_
      refine jr_cV3v hg lk_X7_208 (hI 7 (by decide)) rfl rfl (by decide) (by decide) (Nat.le_of_ble_eq_true rfl) dX7_lean_47 (c_X7_mirrorPairs hI hall wall hl (by decide) (by decide)) ?_
      refine jr_iaddN hg dX7_lean_50 ?_
      refine jr_aload_n hg 0 rfl rfl dX7_lean_51 ?_
      refine jr_iload_n hg 1 rfl rfl dX7_lean_52 ?_
      refine jr_iconst hg (nI 2) dX7_lean_53 (by decide) ?_
      refine jr_iconst hg (nI 1) dX7_lean_54 (by decide) ?_
      refine jr_cV3v hg lk_X7_208 (hI 7 (by decide)) rfl rfl (by decide) (by decide) (Nat.le_of_ble_eq_true rfl) dX7_lean_55 (c_X7_mirrorPairs hI hall wall hl (by decide) (by decide)) ?_
      refine jr_iaddN hg dX7_lean_58 ?_
      refine jr_istore_n hg dX7_lean_59 rfl (by decide) rfl ?_
      refine jr_iload_n hg 3 rfl rfl dX7_lean_60 ?_
      refine jr_iconst hg (nI 1) dX7_lean_61 (by decide) ?_
      refine jr_icmp_neN (tgt := 67) hg dX7_lean_62 (by decide) (by omega) (by omega) (fun h62 => ?_) (fun h62 => ?_)
      · refine jr_iload_n hg 0 rfl rfl dX7_lean_67 ?_
        refine jr_if_neN (tgt := 73) hg dX7_lean_68 (by decide) (by omega) (fun h68 => ?_) (fun h68 => ?_)
        · refine jr_sipush hg (nI 1000) dX7_lean_73 (by decide) ?_
          refine jr_aload_n hg 1 rfl rfl dX7_lean_76 ?_
          refine jr_iload_n hg 2 rfl rfl dX7_lean_77 ?_
          refine jr_iconst hg (nI 1) dX7_lean_78 (by decide) ?_
          refine jr_iconst hg (nI 1) dX7_lean_79 (by decide) ?_
          refine jr_cV3v hg lk_X7_208 (hI 7 (by decide)) rfl rfl (by decide) (by decide) (Nat.le_of_ble_eq_true rfl) dX7_lean_80 (c_X7_mirrorPairs hI hall wall hl (by decide) (by decide)) ?_
          refine jr_aload_n hg 1 rfl rfl dX7_lean_83 ?_
          refine jr_iload_n hg 2 rfl rfl dX7_lean_84 ?_
          refine jr_iconst hg (nI 2) dX7_lean_85 (by decide) ?_
          refine jr_iconst hg (nI 2) dX7_lean_86 (by decide) ?_
          refine jr_cV3v hg lk_X7_208 (hI 7 (by decide)) rfl rfl (by decide) (by decide) (Nat.le_of_ble_eq_true rfl) dX7_lean_87 (c_X7_mirrorPairs hI hall wall hl (by decide) (by decide)) ?_
          refine jr_isub hg dX7_lean_90 ?_
          refine jr_bipush hg (nI 100) dX7_lean_91 (by decide) ?_
          refine jr_imul hg dX7_lean_93 ?_
          refine jr_iload_n hg 0 rfl rfl dX7_lean_94 ?_
          refine jr_idiv hg dX7_lean_95 (nI_ne0 (by omega) (by omega)) ?_
          refine jr_iadd hg dX7_lean_96 ?_
          exact jr_iret hg rfl dX7_lean_97 (zq_ok (by rw [zq_lean, if_pos h8, if_pos h21, zn_nI (by omega), zn_nI (by omega), z_lean, if_neg h62, if_neg (by omega), hpa]) hall)
        · refine jr_iconst hg (-1) dX7_lean_71 (by decide) ?_
          exact jr_iret hg rfl dX7_lean_72 (zq_ok (by rw [zq_lean, if_pos h8, if_pos h21, zn_nI (by omega), zn_nI (by omega), z_lean, if_neg h62, if_pos (by omega)]) hall)
      · refine jr_iload_n hg 0 rfl rfl dX7_lean_65 ?_
        exact jr_iret hg rfl dX7_lean_66 (zq_ok (by rw [zq_lean, if_pos h8, if_pos h21, zn_nI (by omega), zn_nI (by omega), z_lean, if_pos h62, hpa]) hall)
    · refine jr_sipush hg (-1002) dX7_lean_24 (by decide) ?_
      exact jr_iret hg rfl dX7_lean_27 (zq_ok (by rw [zq_lean, if_pos h8, if_neg (by rw [h21]; simp)]) hall)
  · refine jr_sipush hg (-1001) dX7_lean_11 (by decide) ?_
    exact jr_iret hg rfl dX7_lean_14 (zq_ok (if_neg (by rw [h8]; simp)) hall)

set_option maxRecDepth 100000 in
theorem c_X7_agreed {E : mm_E} (hI : mm_FX E) {M : mm_M} {s : zS} (hR : zX s M) (hW : zW s) (l m w : Int32) : mm_Cal E mX7_agreed [.ref (E.1 7), .int l, .int m, .int w] M (fun v M' => v = some (.int (zq_agreed s l m w).1) ∧ zX (zq_agreed s l m w).2 M') := by
  obtain ⟨Rp, Rl, Rk, Rw, Rt, Rd, Ro, Rq⟩ := hR
  obtain ⟨Wp, Wl, Wk, Ww, Wt, Wd, Wo, Wq⟩ := hW
  have hnp := Wp.1
  have hnl := Wl.1
  have hnk := Wk.1
  have hall : zX s M := ⟨Rp, Rl, Rk, Rw, Rt, Rd, Ro, Rq⟩
  have wall : zW s := ⟨Wp, Wl, Wk, Ww, Wt, Wd, Wo, Wq⟩
  refine jr_entry RX7 (by decide +kernel) (Nat.le_of_ble_eq_true rfl) (fun g hg => ?_)
  refine jr_lv (lv' := [(0, .ref (E.1 7)), (1, .int l), (2, .int m), (3, .int w)]) [0, 1, 2, 3] rfl ?_
  refine jr_aload_n hg 0 rfl rfl dX7_agreed_0 ?_
  refine gf_X7_33 hg (hI 7 (by decide)) dX7_agreed_1 ?_
  refine jr_iload_n hg 1 rfl rfl dX7_agreed_4 ?_
  refine jr_cV1v hg lk_X7_147 (hI 2 (by decide)) rfl rfl (by decide) (by decide) (Nat.le_of_ble_eq_true rfl) dX7_agreed_5 (c_X2_has hI Rl Wl l) ?_
  refine jr_if_eqZ (tgt := 27) hg dX7_agreed_8 (by decide) (fun h8 => ?_) (fun h8 => ?_)
  · refine jr_sipush hg (-1001) dX7_agreed_27 (by decide) ?_
    exact jr_iret hg rfl dX7_agreed_30 (zq_ok (if_neg (by rw [h8]; simp)) hall)
  · refine jr_aload_n hg 0 rfl rfl dX7_agreed_11 ?_
    refine gf_X7_33 hg (hI 7 (by decide)) dX7_agreed_12 ?_
    refine jr_iload_n hg 2 rfl rfl dX7_agreed_15 ?_
    refine jr_cV1v hg lk_X7_147 (hI 2 (by decide)) rfl rfl (by decide) (by decide) (Nat.le_of_ble_eq_true rfl) dX7_agreed_16 (c_X2_has hI Rl Wl m) ?_
    refine jr_if_eqZ (tgt := 27) hg dX7_agreed_19 (by decide) (fun h19 => ?_) (fun h19 => ?_)
    · refine jr_sipush hg (-1001) dX7_agreed_27 (by decide) ?_
      exact jr_iret hg rfl dX7_agreed_30 (zq_ok (if_neg (by rw [h8, h19]; simp)) hall)
    · refine jr_iload_n hg 1 rfl rfl dX7_agreed_22 ?_
      refine jr_iload_n hg 2 rfl rfl dX7_agreed_23 ?_
      refine jr_icmp_ne (tgt := 31) hg dX7_agreed_24 (by decide) (fun h24 => ?_) (fun h24 => ?_)
      · obtain ⟨l1, hl, rfl⟩ := zin_of (by omega) h8
        obtain ⟨m1, hm, rfl⟩ := zin_of (by omega) h19
        have hq : (zin (nI l1) (s 0 1) && (zin (nI m1) (s 0 1) && decide (nI l1 ≠ nI m1))) = true := by rw [h8, h19, decide_eq_true h24]; rfl
        refine jr_iload_n hg 3 rfl rfl dX7_agreed_31 ?_
        rcases zcase w 3 with hw | ⟨w0, hw, hw2, rfl⟩ | ⟨w0, hw, hw2, rfl⟩
        · refine jr_tabOut (tgt := 84) hg dX7_agreed_32 (Or.inl (zneg_ti hw)) (by decide) ?_
          refine jr_sipush hg (-1002) dX7_agreed_84 (by decide) ?_
          exact jr_iret hg rfl dX7_agreed_87 (zq_ok (by rw [zq_agreed, if_pos hq, if_neg (by rw [zin_neg hw]; simp)]) hall)
        · rcases (show w0 = 0 ∨ w0 = 1 ∨ w0 = 2 by omega) with rfl | rfl | rfl
          · refine jr_tabIn (tgt := 60) hg dX7_agreed_32 (by decide) (by decide) rfl (by decide) ?_
            refine jr_aload_n hg 0 rfl rfl dX7_agreed_60 ?_
            refine jr_iload_n hg 1 rfl rfl dX7_agreed_61 ?_
            refine jr_iload_n hg 2 rfl rfl dX7_agreed_62 ?_
            refine jr_cV2v hg lk_X7_211 (hI 7 (by decide)) rfl rfl (by decide) (by decide) (Nat.le_of_ble_eq_true rfl) dX7_agreed_63 (c_X7_alikeAnswers hI hall wall hl hm) ?_
            exact jr_iret hg rfl dX7_agreed_66 (zq_ok (by rw [zq_agreed, if_pos hq, zn_nI (j := l1) (by omega), zn_nI (j := m1) (by omega), if_pos (by decide), show zn (nI 0) = 0 by decide]; rfl) hall)
          · refine jr_tabIn (tgt := 67) hg dX7_agreed_32 (by decide) (by decide) rfl (by decide) ?_
            refine jr_aload_n hg 0 rfl rfl dX7_agreed_67 ?_
            refine jr_iload_n hg 1 rfl rfl dX7_agreed_68 ?_
            refine jr_iload_n hg 2 rfl rfl dX7_agreed_69 ?_
            refine jr_cV2v hg lk_X7_214 (hI 7 (by decide)) rfl rfl (by decide) (by decide) (Nat.le_of_ble_eq_true rfl) dX7_agreed_70 (c_X7_sharedPictures hI hall wall hl hm) ?_
            exact jr_iret hg rfl dX7_agreed_73 (zq_ok (by rw [zq_agreed, if_pos hq, zn_nI (j := l1) (by omega), zn_nI (j := m1) (by omega), if_pos (by decide), show zn (nI 1) = 1 by decide]; rfl) hall)
          · refine jr_tabIn (tgt := 74) hg dX7_agreed_32 (by decide) (by decide) rfl (by decide) ?_
            refine jr_aload_n hg 0 rfl rfl dX7_agreed_74 ?_
            refine jr_iload_n hg 1 rfl rfl dX7_agreed_75 ?_
            refine jr_iload_n hg 2 rfl rfl dX7_agreed_76 ?_
            refine jr_cV2v hg lk_X7_217 (hI 7 (by decide)) rfl rfl (by decide) (by decide) (Nat.le_of_ble_eq_true rfl) dX7_agreed_77 (c_X7_mayBeOne hI hall wall hl hm) ?_
            refine jr_cS1v hg lk_X7_131 (by decide) (by decide) (Nat.le_of_ble_eq_true rfl) dX7_agreed_80 (c_X7_oneIf hI (Bool.toNat_le _)) ?_
            exact jr_iret hg rfl dX7_agreed_83 (zq_ok (by rw [zq_agreed, if_pos hq, zn_nI (j := l1) (by omega), zn_nI (j := m1) (by omega), if_pos (by decide), show zn (nI 2) = 2 by decide]; rfl) hall)
        · refine jr_tabOut (tgt := 84) hg dX7_agreed_32 (Or.inr (by rw [nI_toInt hw2]; omega)) (by decide) ?_
          refine jr_sipush hg (-1002) dX7_agreed_84 (by decide) ?_
          exact jr_iret hg rfl dX7_agreed_87 (zq_ok (by rw [zq_agreed, if_pos hq, if_neg (by rw [zin_f hw hw2]; simp)]) hall)
      · refine jr_sipush hg (-1001) dX7_agreed_27 (by decide) ?_
        exact jr_iret hg rfl dX7_agreed_30 (zq_ok (if_neg (by rw [h8, h19, decide_eq_false (fun q => q h24)]; simp)) hall)

set_option maxRecDepth 100000 in
theorem c_X7_green {E : mm_E} (hI : mm_FX E) {M : mm_M} {s : zS} (hR : zX s M) (hW : zW s) (i : Int32) : mm_Cal E mX7_green [.ref (E.1 7), .int i] M (fun v M' => v = some (.int (zq_green s i).1) ∧ zX (zq_green s i).2 M') := by
  obtain ⟨Rp, Rl, Rk, Rw, Rt, Rd, Ro, Rq⟩ := hR
  obtain ⟨Wp, Wl, Wk, Ww, Wt, Wd, Wo, Wq⟩ := hW
  have hnp := Wp.1
  have hnl := Wl.1
  have hnk := Wk.1
  have hall : zX s M := ⟨Rp, Rl, Rk, Rw, Rt, Rd, Ro, Rq⟩
  have wall : zW s := ⟨Wp, Wl, Wk, Ww, Wt, Wd, Wo, Wq⟩
  refine jr_entry RX7 (by decide +kernel) (Nat.le_of_ble_eq_true rfl) (fun g hg => ?_)
  refine jr_lv (lv' := [(0, .ref (E.1 7)), (1, .int i)]) [0, 1] rfl ?_
  refine jr_iload_n hg 1 rfl rfl dX7_green_0 ?_
  refine jr_if_ge (tgt := 8) hg dX7_green_1 (by decide) (fun h1 => ?_) (fun h1 => ?_)
  · obtain ⟨i1, hi, rfl⟩ := nI_of (fun q => zlt_nle q h1)
    refine jr_iconst hg (nI 0) dX7_green_8 (by decide) ?_
    refine jr_istore_n hg dX7_green_9 rfl (by decide) rfl ?_
    have lp10 : ∀ p : Nat, p ≤ s 0 0 → zfind (z_gn s i1) p = 0 → mm_J g E mX7_green (fun v M' => v = some (.int (zq_green s (nI i1)).1) ∧ zX (zq_green s (nI i1)).2 M') 10 [(0, .ref (E.1 7)), (1, .int (nI i1)), (2, .int (nI p))] [] (M) := by
      refine jr_up (S := fun p => zfind (z_gn s i1) p = 0 → mm_J g E mX7_green (fun v M' => v = some (.int (zq_green s (nI i1)).1) ∧ zX (zq_green s (nI i1)).2 M') 10 [(0, .ref (E.1 7)), (1, .int (nI i1)), (2, .int (nI p))] [] (M)) (n := s 0 0) ?_ ?_
      · intro hz
        show mm_J g E mX7_green (fun v M' => v = some (.int (zq_green s (nI i1)).1) ∧ zX (zq_green s (nI i1)).2 M') 10 [(0, .ref (E.1 7)), (1, .int (nI i1)), (2, .int (nI (s 0 0)))] [] (M)
        refine jr_iload_n hg 2 rfl rfl dX7_green_10 ?_
        refine jr_aload_n hg 0 rfl rfl dX7_green_11 ?_
        refine gf_X7_26 hg (hI 7 (by decide)) dX7_green_12 ?_
        refine jr_cV0v hg lk_X7_105 (hI 4 (by decide)) rfl rfl (by decide) (by decide) (Nat.le_of_ble_eq_true rfl) dX7_green_15 (c_X4_size hI Rp Wp) ?_
        refine jr_icmp_geN (tgt := 49) hg dX7_green_18 (by decide) (by omega) (by omega) (fun h18 => ?_) (fun h => by omega)
        refine jr_iconst hg (-1) dX7_green_49 (by decide) ?_
        exact jr_iret hg rfl dX7_green_50 (zq_ok (by rw [zq_green, if_neg (fun q => zlt_nle q h1), zn_nI hi, hz]; rfl) hall)
      · intro p hp ih hz
        show mm_J g E mX7_green (fun v M' => v = some (.int (zq_green s (nI i1)).1) ∧ zX (zq_green s (nI i1)).2 M') 10 [(0, .ref (E.1 7)), (1, .int (nI i1)), (2, .int (nI p))] [] (M)
        have g1 := zcnt_le (z_gr s p) (s 0 2)
        have g2 := zcnt_le (z_gt s p) (s 0 0)
        refine jr_iload_n hg 2 rfl rfl dX7_green_10 ?_
        refine jr_aload_n hg 0 rfl rfl dX7_green_11 ?_
        refine gf_X7_26 hg (hI 7 (by decide)) dX7_green_12 ?_
        refine jr_cV0v hg lk_X7_105 (hI 4 (by decide)) rfl rfl (by decide) (by decide) (Nat.le_of_ble_eq_true rfl) dX7_green_15 (c_X4_size hI Rp Wp) ?_
        refine jr_icmp_geN (tgt := 49) hg dX7_green_18 (by decide) (by omega) (by omega) (fun h => by omega) (fun h18 => ?_)
        refine jr_aload_n hg 0 rfl rfl dX7_green_21 ?_
        refine gf_X7_40 hg (hI 7 (by decide)) dX7_green_22 ?_
        refine jr_iload_n hg 2 rfl rfl dX7_green_25 ?_
        refine jr_cV1v hg lk_X7_138 (hI 3 (by decide)) rfl rfl (by decide) (by decide) (Nat.le_of_ble_eq_true rfl) dX7_green_26 (c_X3_greensAt hI Rk Wk (by omega)) ?_
        refine jr_if_leN (tgt := 43) hg dX7_green_29 (by decide) (by omega) (fun h29 => ?_) (fun h29 => ?_)
        · refine jr_iinc hg 2 rfl (nI (_ + 1)) (nI_1 _) dX7_green_43 (by decide) rfl ?_
          refine jr_goto (tgt := 10) hg dX7_green_46 (by decide) ?_
          have e : z_gn s i1 p = false := by rw [z_gn, decide_eq_false (by omega)]; rfl
          exact jr_lv [1, 2, 0] rfl (ih (by rw [zfind, if_pos hz, e]; rfl))
        · refine jr_aload_n hg 0 rfl rfl dX7_green_32 ?_
          refine jr_iload_n hg 2 rfl rfl dX7_green_33 ?_
          refine jr_cV1v hg lk_X7_220 (hI 7 (by decide)) rfl rfl (by decide) (by decide) (Nat.le_of_ble_eq_true rfl) dX7_green_34 (c_X7_greenerThan hI hall wall hp) ?_
          refine jr_iload_n hg 1 rfl rfl dX7_green_37 ?_
          refine jr_icmp_neN (tgt := 43) hg dX7_green_38 (by decide) (by omega) (by omega) (fun h38 => ?_) (fun h38 => ?_)
          · refine jr_iinc hg 2 rfl (nI (_ + 1)) (nI_1 _) dX7_green_43 (by decide) rfl ?_
            refine jr_goto (tgt := 10) hg dX7_green_46 (by decide) ?_
            have e : z_gn s i1 p = false := by rw [z_gn]; simp [h38]
            exact jr_lv [1, 2, 0] rfl (ih (by rw [zfind, if_pos hz, e]; rfl))
          · refine jr_iload_n hg 2 rfl rfl dX7_green_41 ?_
            exact jr_iret hg rfl dX7_green_42 (zq_ok (by rw [zq_green, if_neg (fun q => zlt_nle q h1), zn_nI hi, zfind_of hp (by rw [z_gn, decide_eq_true h29]; simp [h38]) (zfind_0 hz), zmv_s]) hall)
    exact jr_lv [1, 2, 0] rfl (lp10 0 (by omega) rfl)
  · refine jr_sipush hg (-1002) dX7_green_4 (by decide) ?_
    exact jr_iret hg rfl dX7_green_7 (zq_ok (if_pos (by rw [Int32.lt_iff_toInt_lt]; rw [Int32.le_iff_toInt_le] at h1; omega)) hall)

set_option maxRecDepth 100000 in
theorem c_X7_given {E : mm_E} (hI : mm_FX E) {M : mm_M} {s : zS} (hR : zX s M) (hW : zW s) (x : Int32) : mm_Cal E mX7_given [.ref (E.1 7), .int x] M (fun v M' => v = some (.int (zq_given s x).1) ∧ zX (zq_given s x).2 M') := by
  obtain ⟨Rp, Rl, Rk, Rw, Rt, Rd, Ro, Rq⟩ := hR
  obtain ⟨Wp, Wl, Wk, Ww, Wt, Wd, Wo, Wq⟩ := hW
  have hnp := Wp.1
  have hnl := Wl.1
  have hnk := Wk.1
  have hall : zX s M := ⟨Rp, Rl, Rk, Rw, Rt, Rd, Ro, Rq⟩
  have wall : zW s := ⟨Wp, Wl, Wk, Ww, Wt, Wd, Wo, Wq⟩
  refine jr_entry RX7 (by decide +kernel) (Nat.le_of_ble_eq_true rfl) (fun g hg => ?_)
  refine jr_lv (lv' := [(0, .ref (E.1 7)), (1, .int x)]) [0, 1] rfl ?_
  refine jr_iload_n hg 1 rfl rfl dX7_given_0 ?_
  rcases zcase x 3 with hw | ⟨w0, hw, hw2, rfl⟩ | ⟨w0, hw, hw2, rfl⟩
  · refine jr_tabOut (tgt := 43) hg dX7_given_1 (Or.inl (zneg_ti hw)) (by decide) ?_
    refine jr_sipush hg (-1002) dX7_given_43 (by decide) ?_
    exact jr_iret hg rfl dX7_given_46 (zq_ok (by rw [zq_given, if_neg (by rw [zin_neg hw]; simp)]) hall)
  · rcases (show w0 = 0 ∨ w0 = 1 ∨ w0 = 2 by omega) with rfl | rfl | rfl
    · refine jr_tabIn (tgt := 28) hg dX7_given_1 (by decide) (by decide) rfl (by decide) ?_
      refine jr_aload_n hg 0 rfl rfl dX7_given_28 ?_
      refine jr_cV0v hg lk_X7_223 (hI 7 (by decide)) rfl rfl (by decide) (by decide) (Nat.le_of_ble_eq_true rfl) dX7_given_29 (c_X7_givenPictures hI hall wall) ?_
      exact jr_iret hg rfl dX7_given_32 (zq_ok (by rw [zq_given, if_pos (by decide), show zn (nI 0) = 0 by decide]; rfl) hall)
    · refine jr_tabIn (tgt := 33) hg dX7_given_1 (by decide) (by decide) rfl (by decide) ?_
      refine jr_aload_n hg 0 rfl rfl dX7_given_33 ?_
      refine jr_cV0v hg lk_X7_226 (hI 7 (by decide)) rfl rfl (by decide) (by decide) (Nat.le_of_ble_eq_true rfl) dX7_given_34 (c_X7_looksOfOthersAtGiven hI hall wall) ?_
      exact jr_iret hg rfl dX7_given_37 (zq_ok (by rw [zq_given, if_pos (by decide), show zn (nI 1) = 1 by decide]; rfl) hall)
    · refine jr_tabIn (tgt := 38) hg dX7_given_1 (by decide) (by decide) rfl (by decide) ?_
      refine jr_aload_n hg 0 rfl rfl dX7_given_38 ?_
      refine jr_cV0v hg lk_X7_229 (hI 7 (by decide)) rfl rfl (by decide) (by decide) (Nat.le_of_ble_eq_true rfl) dX7_given_39 (c_X7_wronglyGivenPictures hI hall wall) ?_
      exact jr_iret hg rfl dX7_given_42 (zq_ok (by rw [zq_given, if_pos (by decide), show zn (nI 2) = 2 by decide]; rfl) hall)
  · refine jr_tabOut (tgt := 43) hg dX7_given_1 (Or.inr (by rw [nI_toInt hw2]; omega)) (by decide) ?_
    refine jr_sipush hg (-1002) dX7_given_43 (by decide) ?_
    exact jr_iret hg rfl dX7_given_46 (zq_ok (by rw [zq_given, if_neg (by rw [zin_f hw hw2]; simp)]) hall)

theorem zX_thq {s : zS} {M M1 : mm_M} {n : Nat} (h : zX s M) (a5 : M1.1 5 5 = nI n) (a6 : M1.1 5 6 = nI 0) (a25 : ∀ t, t < 8 → M1.1 25 t = nI 1) (a26 : ∀ k, k < 6 → M1.1 26 k = nI 0) (hs : mm_same [5, 25, 26] M M1) : zX (zthings s n) M1 :=
  ⟨zX_p_c (hs.at (by decide)) h.1, zX_l_c (hs.at (by decide)) h.2.1, zX_k_c (hs.at (by decide)) h.2.2.1, zX_w_c (hs.at (by decide)) h.2.2.2.1, zX_t_c (hs.at (by decide)) h.2.2.2.2.1, by
    show M1.2 0 0 = _
    rw [(hs 0 (by decide)).2]; exact h.2.2.2.2.2.1, zX_o_c (hs.at (by decide)) h.2.2.2.2.2.2.1, ⟨a5, a25, a26, Or.inl a6⟩⟩

set_option maxRecDepth 100000 in
theorem c_X7_things {E : mm_E} (hI : mm_FX E) {M : mm_M} {s : zS} (hR : zX s M) (hW : zW s) (x : Int32) : mm_Cal E mX7_things [.ref (E.1 7), .int x] M (fun v M' => v = some (.int (zq_things s x).1) ∧ zX (zq_things s x).2 M') := by
  obtain ⟨Rp, Rl, Rk, Rw, Rt, Rd, Ro, Rq⟩ := hR
  obtain ⟨Wp, Wl, Wk, Ww, Wt, Wd, Wo, Wq⟩ := hW
  have hnp := Wp.1
  have hnl := Wl.1
  have hnk := Wk.1
  have hall : zX s M := ⟨Rp, Rl, Rk, Rw, Rt, Rd, Ro, Rq⟩
  have wall : zW s := ⟨Wp, Wl, Wk, Ww, Wt, Wd, Wo, Wq⟩
  refine jr_entry RX7 (by decide +kernel) (Nat.le_of_ble_eq_true rfl) (fun g hg => ?_)
  refine jr_lv (lv' := [(0, .ref (E.1 7)), (1, .int x)]) [0, 1] rfl ?_
  refine jr_iload_n hg 1 rfl rfl dX7_things_0 ?_
  refine jr_iconst hg (nI 2) dX7_things_1 (by decide) ?_
  refine jr_bipush hg (nI 8) dX7_things_2 (by decide) ?_
  refine jr_cS3v hg lk_X7_62 (by decide) (by decide) (Nat.le_of_ble_eq_true rfl) dX7_things_4 (c_X7_isWithinW hI x (lo := 2) (hi := 8) (by decide) (by decide)) ?_
  refine jr_if_eqZ (tgt := 21) hg dX7_things_7 (by decide) (fun h7 => ?_) (fun h7 => ?_)
  · refine jr_sipush hg (-1002) dX7_things_21 (by decide) ?_
    exact jr_iret hg rfl dX7_things_24 (zq_ok (if_neg (by rw [h7]; simp)) hall)
  · obtain ⟨x1, hxa, hxb, rfl⟩ := zwi_of (by decide) h7
    refine jr_aload_n hg 0 rfl rfl dX7_things_10 ?_
    refine gf_X7_54 hg (hI 7 (by decide)) dX7_things_11 ?_
    refine jr_iload_n hg 1 rfl rfl dX7_things_14 ?_
    refine jr_cV1p hg lk_X7_232 (hI 5 (by decide)) rfl rfl (by decide) (by decide) (Nat.le_of_ble_eq_true rfl) dX7_things_15 (c_X5_restart (fun c hc => hI c (by revert hc; revert c; decide))) (fun r M' h => ?_)
    obtain ⟨rfl, a5, a6, a25, a26, hs⟩ := h
    refine jr_st (show _ = [Value.int (nI x1)] from rfl) ?_
    refine jr_goto (tgt := 24) hg dX7_things_18 (by decide) ?_
    exact jr_iret hg rfl dX7_things_24 (zq_ok (by rw [zq_things, if_pos h7, zn_nI (by omega)]) (zX_thq hall a5 a6 a25 a26 hs))

set_option maxRecDepth 100000 in
theorem c_X7_weight {E : mm_E} (hI : mm_FX E) {M : mm_M} {s : zS} (hR : zX s M) (hW : zW s) (t w : Int32) : mm_Cal E mX7_weight [.ref (E.1 7), .int t, .int w] M (fun v M' => v = some (.int (zq_weight s t w).1) ∧ zX (zq_weight s t w).2 M') := by
  obtain ⟨Rp, Rl, Rk, Rw, Rt, Rd, Ro, Rq⟩ := hR
  obtain ⟨Wp, Wl, Wk, Ww, Wt, Wd, Wo, Wq⟩ := hW
  have hnp := Wp.1
  have hnl := Wl.1
  have hnk := Wk.1
  have hall : zX s M := ⟨Rp, Rl, Rk, Rw, Rt, Rd, Ro, Rq⟩
  have wall : zW s := ⟨Wp, Wl, Wk, Ww, Wt, Wd, Wo, Wq⟩
  have Rq0 := (zX_q_iff.mp Rq).1
  refine jr_entry RX7 (by decide +kernel) (Nat.le_of_ble_eq_true rfl) (fun g hg => ?_)
  refine jr_lv (lv' := [(0, .ref (E.1 7)), (1, .int t), (2, .int w)]) [0, 1, 2] rfl ?_
  refine jr_aload_n hg 0 rfl rfl dX7_weight_0 ?_
  refine gf_X7_54 hg (hI 7 (by decide)) dX7_weight_1 ?_
  refine jr_iload_n hg 1 rfl rfl dX7_weight_4 ?_
  refine jr_cV1v hg lk_X7_235 (hI 5 (by decide)) rfl rfl (by decide) (by decide) (Nat.le_of_ble_eq_true rfl) dX7_weight_5 (c_X5_hasThing hI Rq0 Wq t) ?_
  refine jr_if_eqZ (tgt := 21) hg dX7_weight_8 (by decide) (fun h8 => ?_) (fun h8 => ?_)
  · refine jr_sipush hg (-1002) dX7_weight_21 (by decide) ?_
    exact jr_iret hg rfl dX7_weight_24 (zq_ok (if_neg (by rw [h8]; simp)) hall)
  · refine jr_iload_n hg 2 rfl rfl dX7_weight_11 ?_
    refine jr_iconst hg (nI 1) dX7_weight_12 (by decide) ?_
    refine jr_bipush hg (nI 99) dX7_weight_13 (by decide) ?_
    refine jr_cS3v hg lk_X7_62 (by decide) (by decide) (Nat.le_of_ble_eq_true rfl) dX7_weight_15 (c_X7_isWithinW hI w (lo := 1) (hi := 99) (by decide) (by decide)) ?_
    refine jr_if_neZ (tgt := 25) hg dX7_weight_18 (by decide) (fun h18 => ?_) (fun h18 => ?_)
    · have h86 := Wq.2.1
      obtain ⟨t1, ht, rfl⟩ := zin_of (by omega) h8
      obtain ⟨v1, hv1, hv2, rfl⟩ := zwi_of (by decide) h18
      have hx : zX (zset s 15 (zup (s 15) t1 v1)) (mm_si (mm_si M 25 (upd (M.1 25) t1 (nI v1))) 5 (upd (M.1 5) 6 (nI 0))) := ⟨Rp, Rl, Rk, Rw, Rt, Rd, Ro, ⟨Rq.1, zrow_up Rq.2.1, Rq.2.2.1, Or.inl rfl⟩⟩
      refine jr_aload_n hg 0 rfl rfl dX7_weight_25 ?_
      refine gf_X7_54 hg (hI 7 (by decide)) dX7_weight_26 ?_
      refine jr_iload_n hg 1 rfl rfl dX7_weight_29 ?_
      refine jr_iload_n hg 2 rfl rfl dX7_weight_30 ?_
      refine jr_cV2v hg lk_X7_238 (hI 5 (by decide)) rfl rfl (by decide) (by decide) (Nat.le_of_ble_eq_true rfl) dX7_weight_31 (c_X5_changeWeight hI Rq0 Wq ht) ?_
      exact jr_iret hg rfl dX7_weight_34 (zq_ok (by rw [zq_weight, if_pos (by rw [h8, h18]; rfl), zn_nI (by omega), zn_nI (by omega)]) hx)
    · refine jr_sipush hg (-1002) dX7_weight_21 (by decide) ?_
      exact jr_iret hg rfl dX7_weight_24 (zq_ok (if_neg (by rw [h8, h18]; simp)) hall)

set_option maxRecDepth 100000 in
theorem c_X7_question {E : mm_E} (hI : mm_FX E) {M : mm_M} {s : zS} (hR : zX s M) (hW : zW s) (k S : Int32) : mm_Cal E mX7_question [.ref (E.1 7), .int k, .int S] M (fun v M' => v = some (.int (zq_question s k S).1) ∧ zX (zq_question s k S).2 M') := by
  obtain ⟨Rp, Rl, Rk, Rw, Rt, Rd, Ro, Rq⟩ := hR
  obtain ⟨Wp, Wl, Wk, Ww, Wt, Wd, Wo, Wq⟩ := hW
  have hnp := Wp.1
  have hnl := Wl.1
  have hnk := Wk.1
  have hall : zX s M := ⟨Rp, Rl, Rk, Rw, Rt, Rd, Ro, Rq⟩
  have wall : zW s := ⟨Wp, Wl, Wk, Ww, Wt, Wd, Wo, Wq⟩
  have Rq0 := (zX_q_iff.mp Rq).1
  refine jr_entry RX7 (by decide +kernel) (Nat.le_of_ble_eq_true rfl) (fun g hg => ?_)
  refine jr_lv (lv' := [(0, .ref (E.1 7)), (1, .int k), (2, .int S)]) [0, 1, 2] rfl ?_
  refine jr_iload_n hg 1 rfl rfl dX7_question_0 ?_
  refine jr_iconst hg (nI 0) dX7_question_1 (by decide) ?_
  refine jr_iconst hg (nI 5) dX7_question_2 (by decide) ?_
  refine jr_cS3v hg lk_X7_62 (by decide) (by decide) (Nat.le_of_ble_eq_true rfl) dX7_question_3 (c_X7_isWithin0 hI k (by decide)) ?_
  refine jr_if_eqZ (tgt := 23) hg dX7_question_6 (by decide) (fun h6 => ?_) (fun h6 => ?_)
  · refine jr_sipush hg (-1002) dX7_question_23 (by decide) ?_
    exact jr_iret hg rfl dX7_question_26 (zq_ok (if_neg (by rw [h6]; simp)) hall)
  · refine jr_iload_n hg 2 rfl rfl dX7_question_9 ?_
    refine jr_aload_n hg 0 rfl rfl dX7_question_10 ?_
    refine gf_X7_54 hg (hI 7 (by decide)) dX7_question_11 ?_
    refine jr_cV0v hg lk_X7_241 (hI 5 (by decide)) rfl rfl (by decide) (by decide) (Nat.le_of_ble_eq_true rfl) dX7_question_14 (c_X5_size hI Rq0 Wq) ?_
    refine jr_cS2v hg lk_X7_181 (by decide) (by decide) (Nat.le_of_ble_eq_true rfl) dX7_question_17 (c_X7_isPart hI S Wq.2.1) ?_
    refine jr_if_neZ (tgt := 27) hg dX7_question_20 (by decide) (fun h20 => ?_) (fun h20 => ?_)
    · have h86 := zpow8 Wq.2.1
      obtain ⟨k1, hk, rfl⟩ := zin_of (by decide) h6
      obtain ⟨S1, hS, rfl⟩ := zin_of (by omega) h20
      have hx : zX (zset s 16 (zup (s 16) k1 S1)) (mm_si (mm_si M 26 (upd (M.1 26) k1 (nI S1))) 5 (upd (M.1 5) 6 (nI 0))) := ⟨Rp, Rl, Rk, Rw, Rt, Rd, Ro, ⟨Rq.1, Rq.2.1, zrow_up Rq.2.2.1, Or.inl rfl⟩⟩
      refine jr_aload_n hg 0 rfl rfl dX7_question_27 ?_
      refine gf_X7_54 hg (hI 7 (by decide)) dX7_question_28 ?_
      refine jr_iload_n hg 1 rfl rfl dX7_question_31 ?_
      refine jr_iload_n hg 2 rfl rfl dX7_question_32 ?_
      refine jr_cV2v hg lk_X7_242 (hI 5 (by decide)) rfl rfl (by decide) (by decide) (Nat.le_of_ble_eq_true rfl) dX7_question_33 (c_X5_changeSet hI Rq0 Wq hk) ?_
      exact jr_iret hg rfl dX7_question_36 (zq_ok (by rw [zq_question, if_pos (by rw [h6, h20]; rfl), zn_nI (by omega), zn_nI (by omega)]) hx)
    · refine jr_sipush hg (-1002) dX7_question_23 (by decide) ?_
      exact jr_iret hg rfl dX7_question_26 (zq_ok (if_neg (by rw [h6, h20]; simp)) hall)

set_option maxRecDepth 100000 in
theorem c_X7_tree {E : mm_E} (hI : mm_FX E) {M : mm_M} {s : zS} (hR : zX s M) (hW : zW s) (S w : Int32) : mm_Cal E mX7_tree [.ref (E.1 7), .int S, .int w] M (fun v M' => v = some (.int (zq_tree s S w).1) ∧ zX (zq_tree s S w).2 M') := by
  obtain ⟨Rp, Rl, Rk, Rw, Rt, Rd, Ro, Rq⟩ := hR
  obtain ⟨Wp, Wl, Wk, Ww, Wt, Wd, Wo, Wq⟩ := hW
  have hnp := Wp.1
  have hnl := Wl.1
  have hnk := Wk.1
  have hall : zX s M := ⟨Rp, Rl, Rk, Rw, Rt, Rd, Ro, Rq⟩
  have wall : zW s := ⟨Wp, Wl, Wk, Ww, Wt, Wd, Wo, Wq⟩
  have Rq0 := (zX_q_iff.mp Rq).1
  refine jr_entry RX7 (by decide +kernel) (Nat.le_of_ble_eq_true rfl) (fun g hg => ?_)
  refine jr_lv (lv' := [(0, .ref (E.1 7)), (1, .int S), (2, .int w)]) [0, 1, 2] rfl ?_
  refine jr_iload_n hg 1 rfl rfl dX7_tree_0 ?_
  refine jr_if_eq (tgt := 18) hg dX7_tree_1 (by decide) (fun h1 => ?_) (fun h1 => ?_)
  · refine jr_sipush hg (-1002) dX7_tree_18 (by decide) ?_
    exact jr_iret hg rfl dX7_tree_21 (zq_ok (if_neg (by rw [decide_eq_false (fun q => q h1)]; simp)) hall)
  · refine jr_iload_n hg 1 rfl rfl dX7_tree_4 ?_
    refine jr_aload_n hg 0 rfl rfl dX7_tree_5 ?_
    refine gf_X7_54 hg (hI 7 (by decide)) dX7_tree_6 ?_
    refine jr_cV0v hg lk_X7_241 (hI 5 (by decide)) rfl rfl (by decide) (by decide) (Nat.le_of_ble_eq_true rfl) dX7_tree_9 (c_X5_size hI Rq0 Wq) ?_
    refine jr_cS2v hg lk_X7_181 (by decide) (by decide) (Nat.le_of_ble_eq_true rfl) dX7_tree_12 (c_X7_isPart hI S Wq.2.1) ?_
    refine jr_if_neZ (tgt := 22) hg dX7_tree_15 (by decide) (fun h15 => ?_) (fun h15 => ?_)
    · have h86 := zpow8 Wq.2.1
      obtain ⟨S1, hS, rfl⟩ := zin_of (by omega) h15
      have hS1 : 1 ≤ S1 := by rcases Nat.eq_zero_or_pos S1 with q | q; exact absurd (by rw [q]; rfl) h1; exact q
      have hq : (decide (nI S1 ≠ 0) && zin (nI S1) (2 ^ s 0 6)) = true := by rw [h15, decide_eq_true h1]; rfl
      refine jr_iload_n hg 2 rfl rfl dX7_tree_22 ?_
      rcases zcase w 3 with hw | ⟨w0, hw, hw2, rfl⟩ | ⟨w0, hw, hw2, rfl⟩
      · refine jr_tabOut (tgt := 75) hg dX7_tree_23 (Or.inl (zneg_ti hw)) (by decide) ?_
        refine jr_sipush hg (-1002) dX7_tree_75 (by decide) ?_
        exact jr_iret hg rfl dX7_tree_78 (zq_ok (by rw [zq_tree, if_pos hq, if_neg (by rw [zin_neg hw]; simp)]) hall)
      · rcases (show w0 = 0 ∨ w0 = 1 ∨ w0 = 2 by omega) with rfl | rfl | rfl
        · refine jr_tabIn (tgt := 48) hg dX7_tree_23 (by decide) (by decide) rfl (by decide) ?_
          refine jr_aload_n hg 0 rfl rfl dX7_tree_48 ?_
          refine gf_X7_54 hg (hI 7 (by decide)) dX7_tree_49 ?_
          refine jr_iload_n hg 1 rfl rfl dX7_tree_52 ?_
          refine jr_cV1p hg lk_X7_245 (hI 5 (by decide)) rfl rfl (by decide) (by decide) (Nat.le_of_ble_eq_true rfl) dX7_tree_53 (c_X5_asksOf hI Rq Wq hS1 hS) (fun r M' h => ?_)
          obtain ⟨rfl, hq2, hs2⟩ := h
          refine jr_st (show _ = [Value.int (z_tree s S1 0)] from rfl) ?_
          exact jr_iret hg rfl dX7_tree_56 (zq_ok (by rw [zq_tree, if_pos hq, zn_nI (j := S1) (by omega), if_pos (by decide), show zn (nI 0) = 0 by decide]) (zX_qs hall hq2 hs2))
        · refine jr_tabIn (tgt := 57) hg dX7_tree_23 (by decide) (by decide) rfl (by decide) ?_
          refine jr_aload_n hg 0 rfl rfl dX7_tree_57 ?_
          refine gf_X7_54 hg (hI 7 (by decide)) dX7_tree_58 ?_
          refine jr_iload_n hg 1 rfl rfl dX7_tree_61 ?_
          refine jr_cV1p hg lk_X7_248 (hI 5 (by decide)) rfl rfl (by decide) (by decide) (Nat.le_of_ble_eq_true rfl) dX7_tree_62 (c_X5_firstOf hI Rq Wq hS1 hS) (fun r M' h => ?_)
          obtain ⟨rfl, hq2, hs2⟩ := h
          refine jr_st (show _ = [Value.int (z_tree s S1 1)] from rfl) ?_
          exact jr_iret hg rfl dX7_tree_65 (zq_ok (by rw [zq_tree, if_pos hq, zn_nI (j := S1) (by omega), if_pos (by decide), show zn (nI 1) = 1 by decide]) (zX_qs hall hq2 hs2))
        · refine jr_tabIn (tgt := 66) hg dX7_tree_23 (by decide) (by decide) rfl (by decide) ?_
          refine jr_aload_n hg 0 rfl rfl dX7_tree_66 ?_
          refine gf_X7_54 hg (hI 7 (by decide)) dX7_tree_67 ?_
          refine jr_iload_n hg 1 rfl rfl dX7_tree_70 ?_
          refine jr_cV1p hg lk_X7_251 (hI 5 (by decide)) rfl rfl (by decide) (by decide) (Nat.le_of_ble_eq_true rfl) dX7_tree_71 (c_X5_depthOf hI Rq Wq hS1 hS) (fun r M' h => ?_)
          obtain ⟨rfl, hq2, hs2⟩ := h
          refine jr_st (show _ = [Value.int (z_tree s S1 2)] from rfl) ?_
          exact jr_iret hg rfl dX7_tree_74 (zq_ok (by rw [zq_tree, if_pos hq, zn_nI (j := S1) (by omega), if_pos (by decide), show zn (nI 2) = 2 by decide]) (zX_qs hall hq2 hs2))
      · refine jr_tabOut (tgt := 75) hg dX7_tree_23 (Or.inr (by rw [nI_toInt hw2]; omega)) (by decide) ?_
        refine jr_sipush hg (-1002) dX7_tree_75 (by decide) ?_
        exact jr_iret hg rfl dX7_tree_78 (zq_ok (by rw [zq_tree, if_pos hq, if_neg (by rw [zin_f hw hw2]; simp)]) hall)
    · refine jr_sipush hg (-1002) dX7_tree_18 (by decide) ?_
      exact jr_iret hg rfl dX7_tree_21 (zq_ok (if_neg (by rw [h15]; simp)) hall)

set_option maxRecDepth 100000 in
theorem c_X7_wrong {E : mm_E} (hI : mm_FX E) {M : mm_M} {s : zS} (hR : zX s M) (hW : zW s) (t : Int32) : mm_Cal E mX7_wrong [.ref (E.1 7), .int t] M (fun v M' => v = some (.int (zq_wrong s t).1) ∧ zX (zq_wrong s t).2 M') := by
  obtain ⟨Rp, Rl, Rk, Rw, Rt, Rd, Ro, Rq⟩ := hR
  obtain ⟨Wp, Wl, Wk, Ww, Wt, Wd, Wo, Wq⟩ := hW
  have hnp := Wp.1
  have hnl := Wl.1
  have hnk := Wk.1
  have hall : zX s M := ⟨Rp, Rl, Rk, Rw, Rt, Rd, Ro, Rq⟩
  have wall : zW s := ⟨Wp, Wl, Wk, Ww, Wt, Wd, Wo, Wq⟩
  have Rq0 := (zX_q_iff.mp Rq).1
  have h86 := Wq.2.1
  refine jr_entry RX7 (by decide +kernel) (Nat.le_of_ble_eq_true rfl) (fun g hg => ?_)
  refine jr_lv (lv' := [(0, .ref (E.1 7)), (1, .int t)]) [0, 1] rfl ?_
  refine jr_aload_n hg 0 rfl rfl dX7_wrong_0 ?_
  refine gf_X7_54 hg (hI 7 (by decide)) dX7_wrong_1 ?_
  refine jr_iload_n hg 1 rfl rfl dX7_wrong_4 ?_
  refine jr_cV1v hg lk_X7_235 (hI 5 (by decide)) rfl rfl (by decide) (by decide) (Nat.le_of_ble_eq_true rfl) dX7_wrong_5 (c_X5_hasThing hI Rq0 Wq t) ?_
  refine jr_if_eqZ (tgt := 22) hg dX7_wrong_8 (by decide) (fun h8 => ?_) (fun h8 => ?_)
  · refine jr_sipush hg (-1002) dX7_wrong_22 (by decide) ?_
    exact jr_iret hg rfl dX7_wrong_25 (zq_ok (if_neg (by rw [h8]; simp)) hall)
  · obtain ⟨t1, ht, rfl⟩ := zin_of (by omega) h8
    refine jr_aload_n hg 0 rfl rfl dX7_wrong_11 ?_
    refine gf_X7_54 hg (hI 7 (by decide)) dX7_wrong_12 ?_
    refine jr_iload_n hg 1 rfl rfl dX7_wrong_15 ?_
    refine jr_cV1p hg lk_X7_252 (hI 5 (by decide)) rfl rfl (by decide) (by decide) (Nat.le_of_ble_eq_true rfl) dX7_wrong_16 (c_X5_wrongTurn hI Rq Wq ht) (fun r M' h => ?_)
    obtain ⟨rfl, hq2, hs2⟩ := h
    refine jr_st (show _ = [Value.int (nI (z_wt (s 15) (s 16) (s 0 6) t1))] from rfl) ?_
    refine jr_goto (tgt := 25) hg dX7_wrong_19 (by decide) ?_
    exact jr_iret hg rfl dX7_wrong_25 (zq_ok (by rw [zq_wrong, if_pos h8, zn_nI (by omega)]) (zX_qs hall hq2 hs2))
