theorem c_X7_isWithinW {E : mm_E} (hI : mm_FX E) {M : mm_M} (x : Int32) {lo hi : Nat} (hl : lo < 2 ^ 31) (hh : hi < 2 ^ 31) : mm_Cal E mX7_isWithin [.int x, .int (nI lo), .int (nI hi)] M (ret1 (.int (nI (zwi lo hi x).toNat)) M) := by
  have h := c_X7_isWithin hI (M := M) x (nI lo) (nI hi)
  rw [zwi_le hl hh] at h
  exact h
theorem c_X7_isPartN {E : mm_E} (hI : mm_FX E) {M : mm_M} (x : Int32) {n : Nat} (hn : n ≤ 8) : mm_Cal E mX7_isPart [.int x, .int (nI n)] M (ret1 (.int (nI (zin x (2 ^ n)).toNat)) M) := c_X7_isPart hI x hn

set_option maxRecDepth 100000 in
theorem c_X7_picture {E : mm_E} (hI : mm_FX E) {M : mm_M} {s : zS} (hR : zX s M) (hW : zW s) (k f d : Int32) {b : Nat} (hb : b ≤ 1) : mm_Cal E mX7_picture [.ref (E.1 7), .int k, .int f, .int d, .int (nI b)] M (fun v M' => v = some (.int (zq_picture s k f d b).1) ∧ zX (zq_picture s k f d b).2 M') := by
  obtain ⟨Rp, Rl, Rk, Rw, Rt, Rd, Ro, Rq⟩ := hR
  obtain ⟨Wp, Wl, Wk, Ww, Wt, Wd, Wo, Wq⟩ := hW
  have hnp := Wp.1
  have hnl := Wl.1
  have hnk := Wk.1
  have hall : zX s M := ⟨Rp, Rl, Rk, Rw, Rt, Rd, Ro, Rq⟩
  have wall : zW s := ⟨Wp, Wl, Wk, Ww, Wt, Wd, Wo, Wq⟩
  refine jr_entry RX7 (by decide +kernel) (Nat.le_of_ble_eq_true rfl) (fun g hg => ?_)
  refine jr_lv (lv' := [(0, .ref (E.1 7)), (1, .int k), (2, .int f), (3, .int d), (4, .int (nI b))]) [0, 1, 2, 3, 4] rfl ?_
  refine jr_iload_n hg 1 rfl rfl dX7_picture_0 ?_
  refine jr_cS1v hg lk_X7_58 (by decide) (by decide) (Nat.le_of_ble_eq_true rfl) dX7_picture_1 (c_X7_isKind hI k) ?_
  refine jr_if_eqZ (tgt := 26) hg dX7_picture_4 (by decide) (fun h4 => ?_) (fun h4 => ?_)
  · refine jr_sipush hg (-1002) dX7_picture_26 (by decide) ?_
    exact jr_iret hg rfl dX7_picture_29 (zq_ok (if_neg (by rw [h4]; simp)) hall)
  · refine jr_iload_n hg 2 rfl rfl dX7_picture_7 ?_
    refine jr_iconst hg (nI 0) dX7_picture_8 (by decide) ?_
    refine jr_iconst hg (nI 1) dX7_picture_9 (by decide) ?_
    refine jr_cS3v hg lk_X7_62 (by decide) (by decide) (Nat.le_of_ble_eq_true rfl) dX7_picture_10 (c_X7_isWithin0 hI f (by decide)) ?_
    refine jr_if_eqZ (tgt := 26) hg dX7_picture_13 (by decide) (fun h13 => ?_) (fun h13 => ?_)
    · refine jr_sipush hg (-1002) dX7_picture_26 (by decide) ?_
      exact jr_iret hg rfl dX7_picture_29 (zq_ok (if_neg (by rw [h4, h13]; simp)) hall)
    · refine jr_iload_n hg 3 rfl rfl dX7_picture_16 ?_
      refine jr_iconst hg (nI 0) dX7_picture_17 (by decide) ?_
      refine jr_bipush hg (nI 9) dX7_picture_18 (by decide) ?_
      refine jr_cS3v hg lk_X7_62 (by decide) (by decide) (Nat.le_of_ble_eq_true rfl) dX7_picture_20 (c_X7_isWithin0 hI d (by decide)) ?_
      refine jr_if_neZ (tgt := 30) hg dX7_picture_23 (by decide) (fun h23 => ?_) (fun h23 => ?_)
      · obtain ⟨k1, hk, rfl⟩ := zin_of (by decide) h4
        obtain ⟨f1, hf, rfl⟩ := zin_of (by decide) h13
        obtain ⟨d1, hd, rfl⟩ := zin_of (by decide) h23
        have hq : (zin (nI k1) 3 && (zin (nI f1) 2 && zin (nI d1) 10)) = true := by rw [h4, h13, h23]; rfl
        rcases Nat.lt_or_ge (s 0 0) 24 with hf | hf
        · have hx : zX (zaddp s k1 f1 d1 b 0) _ := ⟨zX_addp Rp k1 f1 d1 b 0, Rl, Rk, Rw, Rt, Rd, Ro, Rq⟩
          refine jr_aload_n hg 0 rfl rfl dX7_picture_30 ?_
          refine gf_X7_26 hg (hI 7 (by decide)) dX7_picture_31 ?_
          refine jr_iload_n hg 1 rfl rfl dX7_picture_34 ?_
          refine jr_iload_n hg 2 rfl rfl dX7_picture_35 ?_
          refine jr_iload_n hg 3 rfl rfl dX7_picture_36 ?_
          refine jr_iload hg 4 rfl dX7_picture_37 ?_
          refine jr_iconst hg (-1) dX7_picture_39 (by decide) ?_
          refine jr_cV5v hg lk_X7_66 (hI 4 (by decide)) rfl rfl (by decide) (by decide) (Nat.le_of_ble_eq_true rfl) dX7_picture_40 (c_X4_add hI Rp Wp hf (by rcases (show b = 0 ∨ b = 1 by omega) with r | r <;> subst r <;> simp)) ?_
          exact jr_iret hg rfl dX7_picture_43 (zq_ok (by rw [zq_picture, if_pos hq, if_pos hf, zn_nI (by omega), zn_nI (by omega), zn_nI (by omega)]) hx)
        · skip
          refine jr_aload_n hg 0 rfl rfl dX7_picture_30 ?_
          refine gf_X7_26 hg (hI 7 (by decide)) dX7_picture_31 ?_
          refine jr_iload_n hg 1 rfl rfl dX7_picture_34 ?_
          refine jr_iload_n hg 2 rfl rfl dX7_picture_35 ?_
          refine jr_iload_n hg 3 rfl rfl dX7_picture_36 ?_
          refine jr_iload hg 4 rfl dX7_picture_37 ?_
          refine jr_iconst hg (-1) dX7_picture_39 (by decide) ?_
          refine jr_cV5v hg lk_X7_66 (hI 4 (by decide)) rfl rfl (by decide) (by decide) (Nat.le_of_ble_eq_true rfl) dX7_picture_40 (c_X4_add_full hI Rp Wp (by omega)) ?_
          exact jr_iret hg rfl dX7_picture_43 (zq_ok (by rw [zq_picture, if_pos hq, if_neg (by omega)]) hall)
      · refine jr_sipush hg (-1002) dX7_picture_26 (by decide) ?_
        exact jr_iret hg rfl dX7_picture_29 (zq_ok (if_neg (by rw [h4, h13, h23]; simp)) hall)

set_option maxRecDepth 100000 in
theorem c_X7_mirror {E : mm_E} (hI : mm_FX E) {M : mm_M} {s : zS} (hR : zX s M) (hW : zW s) (p : Int32) : mm_Cal E mX7_mirror [.ref (E.1 7), .int p] M (fun v M' => v = some (.int (zq_mirror s p).1) ∧ zX (zq_mirror s p).2 M') := by
  obtain ⟨Rp, Rl, Rk, Rw, Rt, Rd, Ro, Rq⟩ := hR
  obtain ⟨Wp, Wl, Wk, Ww, Wt, Wd, Wo, Wq⟩ := hW
  have hnp := Wp.1
  have hnl := Wl.1
  have hnk := Wk.1
  have hall : zX s M := ⟨Rp, Rl, Rk, Rw, Rt, Rd, Ro, Rq⟩
  have wall : zW s := ⟨Wp, Wl, Wk, Ww, Wt, Wd, Wo, Wq⟩
  refine jr_entry RX7 (by decide +kernel) (Nat.le_of_ble_eq_true rfl) (fun g hg => ?_)
  refine jr_lv (lv' := [(0, .ref (E.1 7)), (1, .int p)]) [0, 1] rfl ?_
  refine jr_aload_n hg 0 rfl rfl dX7_mirror_0 ?_
  refine gf_X7_26 hg (hI 7 (by decide)) dX7_mirror_1 ?_
  refine jr_iload_n hg 1 rfl rfl dX7_mirror_4 ?_
  refine jr_cV1v hg lk_X7_70 (hI 4 (by decide)) rfl rfl (by decide) (by decide) (Nat.le_of_ble_eq_true rfl) dX7_mirror_5 (c_X4_has hI Rp Wp p) ?_
  refine jr_if_neZ (tgt := 15) hg dX7_mirror_8 (by decide) (fun h8 => ?_) (fun h8 => ?_)
  · obtain ⟨j, hj, rfl⟩ := zin_of (by omega) h8
    refine jr_aload_n hg 0 rfl rfl dX7_mirror_15 ?_
    refine gf_X7_26 hg (hI 7 (by decide)) dX7_mirror_16 ?_
    refine jr_iload_n hg 1 rfl rfl dX7_mirror_19 ?_
    refine jr_cV1v hg lk_X7_73 (hI 4 (by decide)) rfl rfl (by decide) (by decide) (Nat.le_of_ble_eq_true rfl) dX7_mirror_20 (c_X4_originalOf hI Rp Wp (by omega)) ?_
    refine jr_iconst hg (-1) dX7_mirror_23 (by decide) ?_
    refine jr_icmp_eq (tgt := 31) hg dX7_mirror_24 (by decide) (fun h24 => ?_) (fun h24 => ?_)
    · have hj5 := (Wp.2 j hj).1
      have h5 : s 5 j = 0 := (zmv_m1 (zW_mo Wp hj)).mp h24
      rcases Nat.lt_or_ge (s 0 0) 24 with hf | hf
      · have hx : zX (zaddp s (z_tu (s 1 j)) (s 2 j) (s 3 j) 0 (j + 1)) _ := ⟨zX_addp Rp (z_tu (s 1 j)) (s 2 j) (s 3 j) 0 (j + 1), Rl, Rk, Rw, Rt, Rd, Ro, Rq⟩
        rw [zmv_s] at hx
        refine jr_aload_n hg 0 rfl rfl dX7_mirror_31 ?_
        refine gf_X7_26 hg (hI 7 (by decide)) dX7_mirror_32 ?_
        refine jr_aload_n hg 0 rfl rfl dX7_mirror_35 ?_
        refine gf_X7_26 hg (hI 7 (by decide)) dX7_mirror_36 ?_
        refine jr_iload_n hg 1 rfl rfl dX7_mirror_39 ?_
        refine jr_cV1v hg lk_X7_77 (hI 4 (by decide)) rfl rfl (by decide) (by decide) (Nat.le_of_ble_eq_true rfl) dX7_mirror_40 (c_X4_kindOf hI Rp Wp (by omega)) ?_
        refine jr_cS1v hg lk_X7_80 (by decide) (by decide) (Nat.le_of_ble_eq_true rfl) dX7_mirror_43 (c_X7_turned hI (by omega)) ?_
        refine jr_aload_n hg 0 rfl rfl dX7_mirror_46 ?_
        refine gf_X7_26 hg (hI 7 (by decide)) dX7_mirror_47 ?_
        refine jr_iload_n hg 1 rfl rfl dX7_mirror_50 ?_
        refine jr_cV1v hg lk_X7_83 (hI 4 (by decide)) rfl rfl (by decide) (by decide) (Nat.le_of_ble_eq_true rfl) dX7_mirror_51 (c_X4_farOf hI Rp Wp (by omega)) ?_
        refine jr_aload_n hg 0 rfl rfl dX7_mirror_54 ?_
        refine gf_X7_26 hg (hI 7 (by decide)) dX7_mirror_55 ?_
        refine jr_iload_n hg 1 rfl rfl dX7_mirror_58 ?_
        refine jr_cV1v hg lk_X7_86 (hI 4 (by decide)) rfl rfl (by decide) (by decide) (Nat.le_of_ble_eq_true rfl) dX7_mirror_59 (c_X4_depthOf hI Rp Wp (by omega)) ?_
        refine jr_iconst hg (nI 0) dX7_mirror_62 (by decide) ?_
        refine jr_iload_n hg 1 rfl rfl dX7_mirror_63 ?_
        refine jr_cV5v hg lk_X7_66 (hI 4 (by decide)) rfl rfl (by decide) (by decide) (Nat.le_of_ble_eq_true rfl) dX7_mirror_64 (c_X4_add hI Rp Wp hf (Or.inl rfl)) ?_
        exact jr_iret hg rfl dX7_mirror_67 (zq_ok (by rw [zq_mirror, if_pos h8, zn_nI (by omega), if_pos h5, if_pos hf]) hx)
      · skip
        refine jr_aload_n hg 0 rfl rfl dX7_mirror_31 ?_
        refine gf_X7_26 hg (hI 7 (by decide)) dX7_mirror_32 ?_
        refine jr_aload_n hg 0 rfl rfl dX7_mirror_35 ?_
        refine gf_X7_26 hg (hI 7 (by decide)) dX7_mirror_36 ?_
        refine jr_iload_n hg 1 rfl rfl dX7_mirror_39 ?_
        refine jr_cV1v hg lk_X7_77 (hI 4 (by decide)) rfl rfl (by decide) (by decide) (Nat.le_of_ble_eq_true rfl) dX7_mirror_40 (c_X4_kindOf hI Rp Wp (by omega)) ?_
        refine jr_cS1v hg lk_X7_80 (by decide) (by decide) (Nat.le_of_ble_eq_true rfl) dX7_mirror_43 (c_X7_turned hI (by omega)) ?_
        refine jr_aload_n hg 0 rfl rfl dX7_mirror_46 ?_
        refine gf_X7_26 hg (hI 7 (by decide)) dX7_mirror_47 ?_
        refine jr_iload_n hg 1 rfl rfl dX7_mirror_50 ?_
        refine jr_cV1v hg lk_X7_83 (hI 4 (by decide)) rfl rfl (by decide) (by decide) (Nat.le_of_ble_eq_true rfl) dX7_mirror_51 (c_X4_farOf hI Rp Wp (by omega)) ?_
        refine jr_aload_n hg 0 rfl rfl dX7_mirror_54 ?_
        refine gf_X7_26 hg (hI 7 (by decide)) dX7_mirror_55 ?_
        refine jr_iload_n hg 1 rfl rfl dX7_mirror_58 ?_
        refine jr_cV1v hg lk_X7_86 (hI 4 (by decide)) rfl rfl (by decide) (by decide) (Nat.le_of_ble_eq_true rfl) dX7_mirror_59 (c_X4_depthOf hI Rp Wp (by omega)) ?_
        refine jr_iconst hg (nI 0) dX7_mirror_62 (by decide) ?_
        refine jr_iload_n hg 1 rfl rfl dX7_mirror_63 ?_
        refine jr_cV5v hg lk_X7_66 (hI 4 (by decide)) rfl rfl (by decide) (by decide) (Nat.le_of_ble_eq_true rfl) dX7_mirror_64 (c_X4_add_full hI Rp Wp (by omega)) ?_
        exact jr_iret hg rfl dX7_mirror_67 (zq_ok (by rw [zq_mirror, if_pos h8, zn_nI (by omega), if_pos h5, if_neg (by omega)]) hall)
    · refine jr_sipush hg (-1003) dX7_mirror_27 (by decide) ?_
      exact jr_iret hg rfl dX7_mirror_30 (zq_ok (by rw [zq_mirror, if_pos h8, zn_nI (by omega), if_neg (fun q => h24 ((zmv_m1 (zW_mo Wp hj)).mpr q))]) hall)
  · refine jr_sipush hg (-1001) dX7_mirror_11 (by decide) ?_
    exact jr_iret hg rfl dX7_mirror_14 (zq_ok (if_neg (by rw [h8]; simp)) hall)

set_option maxRecDepth 100000 in
theorem c_X7_looker {E : mm_E} (hI : mm_FX E) {M : mm_M} {s : zS} (hR : zX s M) (hW : zW s) (x : Int32) : mm_Cal E mX7_looker [.ref (E.1 7), .int x] M (fun v M' => v = some (.int (zq_looker s x).1) ∧ zX (zq_looker s x).2 M') := by
  obtain ⟨Rp, Rl, Rk, Rw, Rt, Rd, Ro, Rq⟩ := hR
  obtain ⟨Wp, Wl, Wk, Ww, Wt, Wd, Wo, Wq⟩ := hW
  have hnp := Wp.1
  have hnl := Wl.1
  have hnk := Wk.1
  have hall : zX s M := ⟨Rp, Rl, Rk, Rw, Rt, Rd, Ro, Rq⟩
  have wall : zW s := ⟨Wp, Wl, Wk, Ww, Wt, Wd, Wo, Wq⟩
  refine jr_entry RX7 (by decide +kernel) (Nat.le_of_ble_eq_true rfl) (fun g hg => ?_)
  refine jr_lv (lv' := [(0, .ref (E.1 7)), (1, .int x)]) [0, 1] rfl ?_
  refine jr_iload_n hg 1 rfl rfl dX7_looker_0 ?_
  refine jr_iconst hg (nI 0) dX7_looker_1 (by decide) ?_
  refine jr_iconst hg (nI 5) dX7_looker_2 (by decide) ?_
  refine jr_cS3v hg lk_X7_62 (by decide) (by decide) (Nat.le_of_ble_eq_true rfl) dX7_looker_3 (c_X7_isWithin0 hI x (by decide)) ?_
  refine jr_if_neZ (tgt := 13) hg dX7_looker_6 (by decide) (fun h6 => ?_) (fun h6 => ?_)
  · obtain ⟨j, hj, rfl⟩ := zin_of (by decide) h6
    rcases Nat.lt_or_ge (s 0 1) 8 with hf | hf
    · have hx : zX (zaddl s j) (mm_si (mm_si M 11 (upd (M.1 11) (s 0 1) (nI j))) 2 (upd (M.1 2) 1 (nI (s 0 1 + 1)))) := ⟨Rp, zX_addl Rl j, Rk, Rw, Rt, Rd, Ro, Rq⟩
      refine jr_aload_n hg 0 rfl rfl dX7_looker_13 ?_
      refine gf_X7_33 hg (hI 7 (by decide)) dX7_looker_14 ?_
      refine jr_iload_n hg 1 rfl rfl dX7_looker_17 ?_
      refine jr_cV1v hg lk_X7_89 (hI 2 (by decide)) rfl rfl (by decide) (by decide) (Nat.le_of_ble_eq_true rfl) dX7_looker_18 (c_X2_add hI Rl Wl hf) ?_
      exact jr_iret hg rfl dX7_looker_21 (zq_ok (by rw [zq_looker, if_pos h6, zn_nI (by omega), if_pos hf]) hx)
    · skip
      refine jr_aload_n hg 0 rfl rfl dX7_looker_13 ?_
      refine gf_X7_33 hg (hI 7 (by decide)) dX7_looker_14 ?_
      refine jr_iload_n hg 1 rfl rfl dX7_looker_17 ?_
      refine jr_cV1v hg lk_X7_89 (hI 2 (by decide)) rfl rfl (by decide) (by decide) (Nat.le_of_ble_eq_true rfl) dX7_looker_18 (c_X2_add_full hI Rl Wl (by omega)) ?_
      exact jr_iret hg rfl dX7_looker_21 (zq_ok (by rw [zq_looker, if_pos h6, if_neg (by omega)]) hall)
  · refine jr_sipush hg (-1002) dX7_looker_9 (by decide) ?_
    exact jr_iret hg rfl dX7_looker_12 (zq_ok (if_neg (by rw [h6]; simp)) hall)

set_option maxRecDepth 100000 in
theorem c_X7_fault {E : mm_E} (hI : mm_FX E) {M : mm_M} {s : zS} (hR : zX s M) (hW : zW s) : mm_Cal E mX7_fault [.ref (E.1 7)] M (fun v M' => v = some (.int (zq_fault s).1) ∧ zX (zq_fault s).2 M') := by
  obtain ⟨Rp, Rl, Rk, Rw, Rt, Rd, Ro, Rq⟩ := hR
  obtain ⟨Wp, Wl, Wk, Ww, Wt, Wd, Wo, Wq⟩ := hW
  have hnp := Wp.1
  have hnl := Wl.1
  have hnk := Wk.1
  have hall : zX s M := ⟨Rp, Rl, Rk, Rw, Rt, Rd, Ro, Rq⟩
  have wall : zW s := ⟨Wp, Wl, Wk, Ww, Wt, Wd, Wo, Wq⟩
  refine jr_entry RX7 (by decide +kernel) (Nat.le_of_ble_eq_true rfl) (fun g hg => ?_)
  refine jr_lv (lv' := [(0, .ref (E.1 7))]) [0] rfl ?_
  refine jr_aload_n hg 0 rfl rfl dX7_fault_0 ?_
  refine gf_X7_10 hg (hI 7 (by decide)) dX7_fault_1 ?_
  refine jr_cV0v hg lk_X7_99 (hI 1 (by decide)) rfl rfl (by decide) (by decide) (Nat.le_of_ble_eq_true rfl) dX7_fault_4 (c_X1_faultPlace hI Rt Wt) ?_
  exact jr_iret hg rfl dX7_fault_7 (zq_ok rfl hall)

set_option maxRecDepth 100000 in
theorem c_X7_law {E : mm_E} (hI : mm_FX E) {M : mm_M} {s : zS} (hR : zX s M) (hW : zW s) (x : Int32) : mm_Cal E mX7_law [.ref (E.1 7), .int x] M (fun v M' => v = some (.int (zq_law s x).1) ∧ zX (zq_law s x).2 M') := by
  obtain ⟨Rp, Rl, Rk, Rw, Rt, Rd, Ro, Rq⟩ := hR
  obtain ⟨Wp, Wl, Wk, Ww, Wt, Wd, Wo, Wq⟩ := hW
  have hnp := Wp.1
  have hnl := Wl.1
  have hnk := Wk.1
  have hall : zX s M := ⟨Rp, Rl, Rk, Rw, Rt, Rd, Ro, Rq⟩
  have wall : zW s := ⟨Wp, Wl, Wk, Ww, Wt, Wd, Wo, Wq⟩
  refine jr_entry RX7 (by decide +kernel) (Nat.le_of_ble_eq_true rfl) (fun g hg => ?_)
  refine jr_lv (lv' := [(0, .ref (E.1 7)), (1, .int x)]) [0, 1] rfl ?_
  refine jr_iload_n hg 1 rfl rfl dX7_law_0 ?_
  refine jr_iconst hg (nI 0) dX7_law_1 (by decide) ?_
  refine jr_bipush hg (nI 7) dX7_law_2 (by decide) ?_
  refine jr_cS3v hg lk_X7_62 (by decide) (by decide) (Nat.le_of_ble_eq_true rfl) dX7_law_4 (c_X7_isWithin0 hI x (by decide)) ?_
  refine jr_if_eqZ (tgt := 21) hg dX7_law_7 (by decide) (fun h7 => ?_) (fun h7 => ?_)
  · refine jr_sipush hg (-1002) dX7_law_21 (by decide) ?_
    exact jr_iret hg rfl dX7_law_24 (zq_ok (if_neg (by rw [h7]; simp)) hall)
  · obtain ⟨x1, hx, rfl⟩ := zin_of (by decide) h7
    refine jr_aload_n hg 0 rfl rfl dX7_law_10 ?_
    refine gf_X7_10 hg (hI 7 (by decide)) dX7_law_11 ?_
    refine jr_iload_n hg 1 rfl rfl dX7_law_14 ?_
    refine jr_cV1v hg lk_X7_102 (hI 1 (by decide)) rfl rfl (by decide) (by decide) (Nat.le_of_ble_eq_true rfl) dX7_law_15 (c_X1_valueOf hI Rw hx) ?_
    refine jr_goto (tgt := 24) hg dX7_law_18 (by decide) ?_
    exact jr_iret hg rfl dX7_law_24 (zq_ok (by rw [zq_law, if_pos h7, zn_nI (by omega)]) hall)

set_option maxRecDepth 100000 in
theorem c_X7_count {E : mm_E} (hI : mm_FX E) {M : mm_M} {s : zS} (hR : zX s M) (hW : zW s) (x : Int32) : mm_Cal E mX7_count [.ref (E.1 7), .int x] M (fun v M' => v = some (.int (zq_count s x).1) ∧ zX (zq_count s x).2 M') := by
  obtain ⟨Rp, Rl, Rk, Rw, Rt, Rd, Ro, Rq⟩ := hR
  obtain ⟨Wp, Wl, Wk, Ww, Wt, Wd, Wo, Wq⟩ := hW
  have hnp := Wp.1
  have hnl := Wl.1
  have hnk := Wk.1
  have hall : zX s M := ⟨Rp, Rl, Rk, Rw, Rt, Rd, Ro, Rq⟩
  have wall : zW s := ⟨Wp, Wl, Wk, Ww, Wt, Wd, Wo, Wq⟩
  refine jr_entry RX7 (by decide +kernel) (Nat.le_of_ble_eq_true rfl) (fun g hg => ?_)
  refine jr_lv (lv' := [(0, .ref (E.1 7)), (1, .int x)]) [0, 1] rfl ?_
  refine jr_iload_n hg 1 rfl rfl dX7_count_0 ?_
  rcases zcase x 9 with hw | ⟨w0, hw, hw2, rfl⟩ | ⟨w0, hw, hw2, rfl⟩
  · refine jr_tabOut (tgt := 118) hg dX7_count_1 (Or.inl (zneg_ti hw)) (by decide) ?_
    refine jr_sipush hg (-1002) dX7_count_118 (by decide) ?_
    exact jr_iret hg rfl dX7_count_121 (zq_ok (by rw [zq_count, if_neg (by rw [zin_neg hw]; simp)]) hall)
  · rcases (show w0 = 0 ∨ w0 = 1 ∨ w0 = 2 ∨ w0 = 3 ∨ w0 = 4 ∨ w0 = 5 ∨ w0 = 6 ∨ w0 = 7 ∨ w0 = 8 by omega) with rfl | rfl | rfl | rfl | rfl | rfl | rfl | rfl | rfl
    · refine jr_tabIn (tgt := 52) hg dX7_count_1 (by decide) (by decide) rfl (by decide) ?_
      refine jr_aload_n hg 0 rfl rfl dX7_count_52 ?_
      refine gf_X7_26 hg (hI 7 (by decide)) dX7_count_53 ?_
      refine jr_cV0v hg lk_X7_105 (hI 4 (by decide)) rfl rfl (by decide) (by decide) (Nat.le_of_ble_eq_true rfl) dX7_count_56 (c_X4_size hI Rp Wp) ?_
      exact jr_iret hg rfl dX7_count_59 (zq_ok (by rw [zq_count, if_pos (by decide), show zn (nI 0) = 0 by decide]; rfl) hall)
    · refine jr_tabIn (tgt := 60) hg dX7_count_1 (by decide) (by decide) rfl (by decide) ?_
      refine jr_aload_n hg 0 rfl rfl dX7_count_60 ?_
      refine gf_X7_33 hg (hI 7 (by decide)) dX7_count_61 ?_
      refine jr_cV0v hg lk_X7_108 (hI 2 (by decide)) rfl rfl (by decide) (by decide) (Nat.le_of_ble_eq_true rfl) dX7_count_64 (c_X2_size hI Rl Wl) ?_
      exact jr_iret hg rfl dX7_count_67 (zq_ok (by rw [zq_count, if_pos (by decide), show zn (nI 1) = 1 by decide]; rfl) hall)
    · refine jr_tabIn (tgt := 68) hg dX7_count_1 (by decide) (by decide) rfl (by decide) ?_
      refine jr_aload_n hg 0 rfl rfl dX7_count_68 ?_
      refine gf_X7_40 hg (hI 7 (by decide)) dX7_count_69 ?_
      refine jr_cV0v hg lk_X7_109 (hI 3 (by decide)) rfl rfl (by decide) (by decide) (Nat.le_of_ble_eq_true rfl) dX7_count_72 (c_X3_size hI Rk Wk) ?_
      exact jr_iret hg rfl dX7_count_75 (zq_ok (by rw [zq_count, if_pos (by decide), show zn (nI 2) = 2 by decide]; rfl) hall)
    · refine jr_tabIn (tgt := 76) hg dX7_count_1 (by decide) (by decide) rfl (by decide) ?_
      refine jr_aload_n hg 0 rfl rfl dX7_count_76 ?_
      refine gf_X7_26 hg (hI 7 (by decide)) dX7_count_77 ?_
      refine jr_cV0v hg lk_X7_110 (hI 4 (by decide)) rfl rfl (by decide) (by decide) (Nat.le_of_ble_eq_true rfl) dX7_count_80 (c_X4_knownOnes hI Rp Wp) ?_
      exact jr_iret hg rfl dX7_count_83 (zq_ok (by rw [zq_count, if_pos (by decide), show zn (nI 3) = 3 by decide]; rfl) hall)
    · refine jr_tabIn (tgt := 84) hg dX7_count_1 (by decide) (by decide) rfl (by decide) ?_
      refine jr_aload_n hg 0 rfl rfl dX7_count_84 ?_
      refine gf_X7_26 hg (hI 7 (by decide)) dX7_count_85 ?_
      refine jr_cV0v hg lk_X7_113 (hI 4 (by decide)) rfl rfl (by decide) (by decide) (Nat.le_of_ble_eq_true rfl) dX7_count_88 (c_X4_mirrors hI Rp Wp) ?_
      exact jr_iret hg rfl dX7_count_91 (zq_ok (by rw [zq_count, if_pos (by decide), show zn (nI 4) = 4 by decide]; rfl) hall)
    · refine jr_tabIn (tgt := 92) hg dX7_count_1 (by decide) (by decide) rfl (by decide) ?_
      refine jr_aload_n hg 0 rfl rfl dX7_count_92 ?_
      refine jr_cV0v hg lk_X7_116 (hI 7 (by decide)) rfl rfl (by decide) (by decide) (Nat.le_of_ble_eq_true rfl) dX7_count_93 (c_X7_doneOnes hI hall wall) ?_
      exact jr_iret hg rfl dX7_count_96 (zq_ok (by rw [zq_count, if_pos (by decide), show zn (nI 5) = 5 by decide]; rfl) hall)
    · refine jr_tabIn (tgt := 97) hg dX7_count_1 (by decide) (by decide) rfl (by decide) ?_
      refine jr_aload_n hg 0 rfl rfl dX7_count_97 ?_
      refine gf_X7_10 hg (hI 7 (by decide)) dX7_count_98 ?_
      refine jr_cV0v hg lk_X7_119 (hI 1 (by decide)) rfl rfl (by decide) (by decide) (Nat.le_of_ble_eq_true rfl) dX7_count_101 (c_X1_textSize hI Rt Wt) ?_
      exact jr_iret hg rfl dX7_count_104 (zq_ok (by rw [zq_count, if_pos (by decide), show zn (nI 6) = 6 by decide]; rfl) hall)
    · refine jr_tabIn (tgt := 105) hg dX7_count_1 (by decide) (by decide) rfl (by decide) ?_
      refine jr_aload_n hg 0 rfl rfl dX7_count_105 ?_
      refine jr_cV0v hg lk_X7_122 (hI 7 (by decide)) rfl rfl (by decide) (by decide) (Nat.le_of_ble_eq_true rfl) dX7_count_106 (c_X7_stayingOnes hI hall wall) ?_
      exact jr_iret hg rfl dX7_count_109 (zq_ok (by rw [zq_count, if_pos (by decide), show zn (nI 7) = 7 by decide]; rfl) hall)
    · refine jr_tabIn (tgt := 110) hg dX7_count_1 (by decide) (by decide) rfl (by decide) ?_
      refine jr_aload_n hg 0 rfl rfl dX7_count_110 ?_
      refine gf_X7_47 hg (hI 7 (by decide)) dX7_count_111 ?_
      refine jr_cV0v hg lk_X7_125 (hI 6 (by decide)) rfl rfl (by decide) (by decide) (Nat.le_of_ble_eq_true rfl) dX7_count_114 (c_X6_rounds hI Ro Wo) ?_
      exact jr_iret hg rfl dX7_count_117 (zq_ok (by rw [zq_count, if_pos (by decide), show zn (nI 8) = 8 by decide]; rfl) hall)
  · refine jr_tabOut (tgt := 118) hg dX7_count_1 (Or.inr (by rw [nI_toInt hw2]; omega)) (by decide) ?_
    refine jr_sipush hg (-1002) dX7_count_118 (by decide) ?_
    exact jr_iret hg rfl dX7_count_121 (zq_ok (by rw [zq_count, if_neg (by rw [zin_f hw hw2]; simp)]) hall)

set_option maxRecDepth 100000 in
theorem c_X7_told {E : mm_E} (hI : mm_FX E) {M : mm_M} {s : zS} (hR : zX s M) (hW : zW s) (p w : Int32) : mm_Cal E mX7_told [.ref (E.1 7), .int p, .int w] M (fun v M' => v = some (.int (zq_told s p w).1) ∧ zX (zq_told s p w).2 M') := by
  obtain ⟨Rp, Rl, Rk, Rw, Rt, Rd, Ro, Rq⟩ := hR
  obtain ⟨Wp, Wl, Wk, Ww, Wt, Wd, Wo, Wq⟩ := hW
  have hnp := Wp.1
  have hnl := Wl.1
  have hnk := Wk.1
  have hall : zX s M := ⟨Rp, Rl, Rk, Rw, Rt, Rd, Ro, Rq⟩
  have wall : zW s := ⟨Wp, Wl, Wk, Ww, Wt, Wd, Wo, Wq⟩
  refine jr_entry RX7 (by decide +kernel) (Nat.le_of_ble_eq_true rfl) (fun g hg => ?_)
  refine jr_lv (lv' := [(0, .ref (E.1 7)), (1, .int p), (2, .int w)]) [0, 1, 2] rfl ?_
  refine jr_aload_n hg 0 rfl rfl dX7_told_0 ?_
  refine gf_X7_26 hg (hI 7 (by decide)) dX7_told_1 ?_
  refine jr_iload_n hg 1 rfl rfl dX7_told_4 ?_
  refine jr_cV1v hg lk_X7_70 (hI 4 (by decide)) rfl rfl (by decide) (by decide) (Nat.le_of_ble_eq_true rfl) dX7_told_5 (c_X4_has hI Rp Wp p) ?_
  refine jr_if_neZ (tgt := 15) hg dX7_told_8 (by decide) (fun h8 => ?_) (fun h8 => ?_)
  · obtain ⟨p1, hp, rfl⟩ := zin_of (by omega) h8
    refine jr_iload_n hg 2 rfl rfl dX7_told_15 ?_
    rcases zcase w 8 with hw | ⟨w0, hw, hw2, rfl⟩ | ⟨w0, hw, hw2, rfl⟩
    · refine jr_tabOut (tgt := 139) hg dX7_told_16 (Or.inl (zneg_ti hw)) (by decide) ?_
      refine jr_sipush hg (-1002) dX7_told_139 (by decide) ?_
      exact jr_iret hg rfl dX7_told_142 (zq_ok (by rw [zq_told, if_pos h8, if_neg (by rw [zin_neg hw]; simp)]) hall)
    · rcases (show w0 = 0 ∨ w0 = 1 ∨ w0 = 2 ∨ w0 = 3 ∨ w0 = 4 ∨ w0 = 5 ∨ w0 = 6 ∨ w0 = 7 by omega) with rfl | rfl | rfl | rfl | rfl | rfl | rfl | rfl
      · refine jr_tabIn (tgt := 64) hg dX7_told_16 (by decide) (by decide) rfl (by decide) ?_
        refine jr_aload_n hg 0 rfl rfl dX7_told_64 ?_
        refine gf_X7_26 hg (hI 7 (by decide)) dX7_told_65 ?_
        refine jr_iload_n hg 1 rfl rfl dX7_told_68 ?_
        refine jr_cV1v hg lk_X7_77 (hI 4 (by decide)) rfl rfl (by decide) (by decide) (Nat.le_of_ble_eq_true rfl) dX7_told_69 (c_X4_kindOf hI Rp Wp (by omega)) ?_
        exact jr_iret hg rfl dX7_told_72 (zq_ok (by rw [zq_told, if_pos h8, zn_nI (j := p1) (by omega), if_pos (by decide), show zn (nI 0) = 0 by decide]; rfl) hall)
      · refine jr_tabIn (tgt := 73) hg dX7_told_16 (by decide) (by decide) rfl (by decide) ?_
        refine jr_aload_n hg 0 rfl rfl dX7_told_73 ?_
        refine gf_X7_26 hg (hI 7 (by decide)) dX7_told_74 ?_
        refine jr_iload_n hg 1 rfl rfl dX7_told_77 ?_
        refine jr_cV1v hg lk_X7_83 (hI 4 (by decide)) rfl rfl (by decide) (by decide) (Nat.le_of_ble_eq_true rfl) dX7_told_78 (c_X4_farOf hI Rp Wp (by omega)) ?_
        exact jr_iret hg rfl dX7_told_81 (zq_ok (by rw [zq_told, if_pos h8, zn_nI (j := p1) (by omega), if_pos (by decide), show zn (nI 1) = 1 by decide]; rfl) hall)
      · refine jr_tabIn (tgt := 82) hg dX7_told_16 (by decide) (by decide) rfl (by decide) ?_
        refine jr_aload_n hg 0 rfl rfl dX7_told_82 ?_
        refine gf_X7_26 hg (hI 7 (by decide)) dX7_told_83 ?_
        refine jr_iload_n hg 1 rfl rfl dX7_told_86 ?_
        refine jr_cV1v hg lk_X7_86 (hI 4 (by decide)) rfl rfl (by decide) (by decide) (Nat.le_of_ble_eq_true rfl) dX7_told_87 (c_X4_depthOf hI Rp Wp (by omega)) ?_
        exact jr_iret hg rfl dX7_told_90 (zq_ok (by rw [zq_told, if_pos h8, zn_nI (j := p1) (by omega), if_pos (by decide), show zn (nI 2) = 2 by decide]; rfl) hall)
      · refine jr_tabIn (tgt := 91) hg dX7_told_16 (by decide) (by decide) rfl (by decide) ?_
        refine jr_aload_n hg 0 rfl rfl dX7_told_91 ?_
        refine gf_X7_26 hg (hI 7 (by decide)) dX7_told_92 ?_
        refine jr_iload_n hg 1 rfl rfl dX7_told_95 ?_
        refine jr_cV1v hg lk_X7_128 (hI 4 (by decide)) rfl rfl (by decide) (by decide) (Nat.le_of_ble_eq_true rfl) dX7_told_96 (c_X4_isKnown hI Rp Wp hp) ?_
        refine jr_cS1v hg lk_X7_131 (by decide) (by decide) (Nat.le_of_ble_eq_true rfl) dX7_told_99 (c_X7_oneIf hI ((Wp.2 p1 hp).2.2.2.1)) ?_
        exact jr_iret hg rfl dX7_told_102 (zq_ok (by rw [zq_told, if_pos h8, zn_nI (j := p1) (by omega), if_pos (by decide), show zn (nI 3) = 3 by decide]; rfl) hall)
      · refine jr_tabIn (tgt := 103) hg dX7_told_16 (by decide) (by decide) rfl (by decide) ?_
        refine jr_aload_n hg 0 rfl rfl dX7_told_103 ?_
        refine gf_X7_26 hg (hI 7 (by decide)) dX7_told_104 ?_
        refine jr_iload_n hg 1 rfl rfl dX7_told_107 ?_
        refine jr_cV1v hg lk_X7_73 (hI 4 (by decide)) rfl rfl (by decide) (by decide) (Nat.le_of_ble_eq_true rfl) dX7_told_108 (c_X4_originalOf hI Rp Wp (by omega)) ?_
        exact jr_iret hg rfl dX7_told_111 (zq_ok (by rw [zq_told, if_pos h8, zn_nI (j := p1) (by omega), if_pos (by decide), show zn (nI 4) = 4 by decide]; rfl) hall)
      · refine jr_tabIn (tgt := 112) hg dX7_told_16 (by decide) (by decide) rfl (by decide) ?_
        refine jr_aload_n hg 0 rfl rfl dX7_told_112 ?_
        refine gf_X7_40 hg (hI 7 (by decide)) dX7_told_113 ?_
        refine jr_iload_n hg 1 rfl rfl dX7_told_116 ?_
        refine jr_cV1v hg lk_X7_135 (hI 3 (by decide)) rfl rfl (by decide) (by decide) (Nat.le_of_ble_eq_true rfl) dX7_told_117 (c_X3_howManyAt hI Rk Wk (by omega)) ?_
        exact jr_iret hg rfl dX7_told_120 (zq_ok (by rw [zq_told, if_pos h8, zn_nI (j := p1) (by omega), if_pos (by decide), show zn (nI 5) = 5 by decide]; rfl) hall)
      · refine jr_tabIn (tgt := 121) hg dX7_told_16 (by decide) (by decide) rfl (by decide) ?_
        refine jr_aload_n hg 0 rfl rfl dX7_told_121 ?_
        refine gf_X7_40 hg (hI 7 (by decide)) dX7_told_122 ?_
        refine jr_iload_n hg 1 rfl rfl dX7_told_125 ?_
        refine jr_cV1v hg lk_X7_138 (hI 3 (by decide)) rfl rfl (by decide) (by decide) (Nat.le_of_ble_eq_true rfl) dX7_told_126 (c_X3_greensAt hI Rk Wk (by omega)) ?_
        exact jr_iret hg rfl dX7_told_129 (zq_ok (by rw [zq_told, if_pos h8, zn_nI (j := p1) (by omega), if_pos (by decide), show zn (nI 6) = 6 by decide]; rfl) hall)
      · refine jr_tabIn (tgt := 130) hg dX7_told_16 (by decide) (by decide) rfl (by decide) ?_
        refine jr_aload_n hg 0 rfl rfl dX7_told_130 ?_
        refine jr_iload_n hg 1 rfl rfl dX7_told_131 ?_
        refine jr_cV1v hg lk_X7_141 (hI 7 (by decide)) rfl rfl (by decide) (by decide) (Nat.le_of_ble_eq_true rfl) dX7_told_132 (c_X7_isDone hI hall wall hp) ?_
        refine jr_cS1v hg lk_X7_131 (by decide) (by decide) (Nat.le_of_ble_eq_true rfl) dX7_told_135 (c_X7_oneIf hI (Bool.toNat_le _)) ?_
        exact jr_iret hg rfl dX7_told_138 (zq_ok (by rw [zq_told, if_pos h8, zn_nI (j := p1) (by omega), if_pos (by decide), show zn (nI 7) = 7 by decide]; rfl) hall)
    · refine jr_tabOut (tgt := 139) hg dX7_told_16 (Or.inr (by rw [nI_toInt hw2]; omega)) (by decide) ?_
      refine jr_sipush hg (-1002) dX7_told_139 (by decide) ?_
      exact jr_iret hg rfl dX7_told_142 (zq_ok (by rw [zq_told, if_pos h8, if_neg (by rw [zin_f hw hw2]; simp)]) hall)
  · refine jr_sipush hg (-1001) dX7_told_11 (by decide) ?_
    exact jr_iret hg rfl dX7_told_14 (zq_ok (if_neg (by rw [h8]; simp)) hall)

set_option maxRecDepth 100000 in
theorem c_X7_seed {E : mm_E} (hI : mm_FX E) {M : mm_M} {s : zS} (hR : zX s M) (hW : zW s) (x : Int32) : mm_Cal E mX7_seed [.ref (E.1 7), .int x] M (fun v M' => v = some (.int (zq_seed s x).1) ∧ zX (zq_seed s x).2 M') := by
  obtain ⟨Rp, Rl, Rk, Rw, Rt, Rd, Ro, Rq⟩ := hR
  obtain ⟨Wp, Wl, Wk, Ww, Wt, Wd, Wo, Wq⟩ := hW
  have hnp := Wp.1
  have hnl := Wl.1
  have hnk := Wk.1
  have hall : zX s M := ⟨Rp, Rl, Rk, Rw, Rt, Rd, Ro, Rq⟩
  have wall : zW s := ⟨Wp, Wl, Wk, Ww, Wt, Wd, Wo, Wq⟩
  refine jr_entry RX7 (by decide +kernel) (Nat.le_of_ble_eq_true rfl) (fun g hg => ?_)
  refine jr_lv (lv' := [(0, .ref (E.1 7)), (1, .int x)]) [0, 1] rfl ?_
  refine jr_iload_n hg 1 rfl rfl dX7_seed_0 ?_
  refine jr_if_ge (tgt := 10) hg dX7_seed_1 (by decide) (fun h1 => ?_) (fun h1 => ?_)
  · obtain ⟨v1, hv2, rfl⟩ := nI_of (fun q => zlt_nle q h1)
    refine jr_aload_n hg 0 rfl rfl dX7_seed_10 ?_
    refine gf_X7_19 hg (hI 7 (by decide)) dX7_seed_11 ?_
    refine jr_iload_n hg 1 rfl rfl dX7_seed_14 ?_
    refine jr_cV1v hg lk_X7_144 (hI 0 (by decide)) rfl rfl (by decide) (by decide) (Nat.le_of_ble_eq_true rfl) dX7_seed_15 (c_X0_begin hI Rd Wd hv2) ?_
    exact jr_iret hg rfl dX7_seed_18 (zq_ok (by rw [zq_seed, if_neg (fun q => zlt_nle q h1), zn_nI hv2]) (⟨Rp, Rl, Rk, Rw, Rt, rfl, Ro, Rq⟩ : zX (zseed s v1) (zseedM M v1)))
  · refine jr_sipush hg (-1002) dX7_seed_4 (by decide) ?_
    refine jr_goto (tgt := 18) hg dX7_seed_7 (by decide) ?_
    exact jr_iret hg rfl dX7_seed_18 (zq_ok (if_pos (by rw [Int32.lt_iff_toInt_lt]; rw [Int32.le_iff_toInt_le] at h1; omega)) hall)
