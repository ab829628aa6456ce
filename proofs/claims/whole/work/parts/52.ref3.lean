theorem zq_okR {q : Int32 × zS} {a : Int32} {s' : zS} {M' : mm_M} (h : q = (a, s')) (hx : zR s' M') : some (Value.int a) = some (.int q.1) ∧ zR q.2 M' := by subst h; exact ⟨rfl, hx⟩
theorem zbn {b : Bool} (h : (!b) = false) : b = true := by cases b <;> simp_all
theorem zbt {b : Bool} (h : (!b) = true) : b = false := by cases b <;> simp_all
theorem zbf {b : Bool} (h : (!b) = true) : ¬ b = true := by cases b <;> simp_all
theorem zR_k_s {s : zS} {M : mm_M} {d : Nat} (h : zR_k s M) : zR_k s (zseedR M d) := h
theorem zR_look {s : zS} {M : mm_M} (h : zR s M) (l p : Nat) : zR (zlook s l p) (zaddkR s (zseedR M (z_said s l p (s 0 3)).2) l p (z_said s l p (s 0 3)).1) := by
  generalize hq : z_said s l p (s 0 3) = q
  rw [zlook, hq]
  obtain ⟨x, d⟩ := q
  obtain ⟨a1, b, c, d0, e, f0, g, q⟩ := h
  refine ⟨a1, b, ⟨rfl, fun k hk => ?_⟩, d0, e, rfl, g, q⟩
  have hk : k < s 0 2 + 1 := hk
  show upd (M.1 45) (s 0 2) (nI l) k = nI (zup (s 7) (s 0 2) l k) ∧ upd (M.1 46) (s 0 2) (nI p) k = nI (zup (s 8) (s 0 2) p k) ∧ upd (M.1 47) (s 0 2) (nI x) k = nI (zup (s 9) (s 0 2) x k)
  by_cases e : k = s 0 2
  · rw [e, upd_s, upd_s, upd_s, zup_s, zup_s, zup_s]
    exact ⟨rfl, rfl, rfl⟩
  · rw [upd_n e, upd_n e, upd_n e, zup_n e, zup_n e, zup_n e]
    exact c.2 k (by omega)
theorem zR_addl {s : zS} {M : mm_M} (h : zR s M) (k : Nat) : zR (zaddl s k) (mm_si (mm_si M 44 (upd (M.1 44) (s 0 1) (nI k))) 35 (upd (M.1 35) 15 (nI (s 0 1 + 1)))) := by
  obtain ⟨a1, b, c, d0, e, f0, g, q⟩ := h
  refine ⟨a1, ⟨rfl, fun p hp => ?_⟩, c, d0, e, f0, g, q⟩
  have hp : p < s 0 1 + 1 := hp
  show upd (M.1 44) (s 0 1) (nI k) p = nI (zup (s 6) (s 0 1) k p)
  by_cases e : p = s 0 1
  · rw [e, upd_s, zup_s]
  · rw [upd_n e, zup_n e]; exact b.2 p (by omega)
theorem z_tt_full (s : zS) (S r : Nat) {l : Nat} (h : 200 ≤ z_tt s S r l 0 2) : ∀ m, l ≤ m → z_tt s S r m = z_tt s S r l := by
  intro m hm
  obtain ⟨d, hd⟩ : ∃ d, l + d = m := ⟨m - l, by omega⟩
  subst hd
  induction d with
  | zero => rfl
  | succ d ih =>
    have ih := ih (by omega)
    rw [← Nat.add_assoc, z_tt, ih, decide_eq_false (by omega)]
    simp
theorem z_fs_s {s : zS} {k p : Nat} (h : s 2 p ≤ 1) : z_fs s k (p + 1) = z_fs s k p + s 2 p * s 12 (3 * p + k) := by
  rw [z_fs, zsum_s]
  rcases (show s 2 p = 0 ∨ s 2 p = 1 by omega) with e | e <;> rw [e] <;> simp

set_option maxRecDepth 100000 in
theorem c_X8_picture {E : mm_E} (hI : mm_FR E) {M : mm_M} {s : zS} (hR : zR s M) (hW : zW s) (k f d : Int32) {b : Nat} (hb : b ≤ 1) : mm_Cal E mX8_picture [.ref (E.1 35), .int k, .int f, .int d, .int (nI b)] M (fun v M' => v = some (.int (zq_picture s k f d b).1) ∧ zR (zq_picture s k f d b).2 M') := by
  obtain ⟨Rp, Rl, Rk, Rw, Rt, Rd, Ro, Rq⟩ := hR
  obtain ⟨Wp, Wl, Wk, Ww, Wt, Wd, Wo, Wq⟩ := hW
  have hnp := Wp.1
  have hnl := Wl.1
  have hnk := Wk.1
  have rall : zR s M := ⟨Rp, Rl, Rk, Rw, Rt, Rd, Ro, Rq⟩
  have wall : zW s := ⟨Wp, Wl, Wk, Ww, Wt, Wd, Wo, Wq⟩
  refine jr_entry RX8 (by decide +kernel) (Nat.le_of_ble_eq_true rfl) (fun g hg => ?_)
  refine jr_lv (lv' := [(0, .ref (E.1 35)), (1, .int k), (2, .int f), (3, .int d), (4, .int (nI b))]) [0, 1, 2, 3, 4] rfl ?_
  refine jr_iload_n hg 1 rfl rfl dX8_picture_0 ?_
  refine jr_i2l hg _ dX8_picture_1 rfl ?_
  refine jr_lconst hg (lN 0) dX8_picture_2 (by decide) ?_
  refine jr_ldc2 hg wm_8_0 dX8_picture_3 ?_
  refine jr_topl (show (2 : Int64) = lN 2 by decide) ?_
  refine jr_cS3v hg lk_X8_100 (by decide) (by decide) (Nat.le_of_ble_eq_true rfl) dX8_picture_6 (c_X8_in0 hI k rfl (by decide)) ?_
  refine jr_if_eqZ (tgt := 34) hg dX8_picture_9 (by decide) (fun h9 => ?_) (fun h9 => ?_)
  · refine jr_sipush hg (-1002) dX8_picture_34 (by decide) ?_
    exact jr_iret hg rfl dX8_picture_37 (zq_okR (if_neg (by rw [h9]; simp)) rall)
  · refine jr_iload_n hg 2 rfl rfl dX8_picture_12 ?_
    refine jr_i2l hg _ dX8_picture_13 rfl ?_
    refine jr_lconst hg (lN 0) dX8_picture_14 (by decide) ?_
    refine jr_lconst hg (lN 1) dX8_picture_15 (by decide) ?_
    refine jr_cS3v hg lk_X8_100 (by decide) (by decide) (Nat.le_of_ble_eq_true rfl) dX8_picture_16 (c_X8_in0 hI f rfl (by decide)) ?_
    refine jr_if_eqZ (tgt := 34) hg dX8_picture_19 (by decide) (fun h19 => ?_) (fun h19 => ?_)
    · refine jr_sipush hg (-1002) dX8_picture_34 (by decide) ?_
      exact jr_iret hg rfl dX8_picture_37 (zq_okR (if_neg (by rw [h9, h19]; simp)) rall)
    · refine jr_iload_n hg 3 rfl rfl dX8_picture_22 ?_
      refine jr_i2l hg _ dX8_picture_23 rfl ?_
      refine jr_lconst hg (lN 0) dX8_picture_24 (by decide) ?_
      refine jr_ldc2 hg wm_8_1 dX8_picture_25 ?_
      refine jr_topl (show (9 : Int64) = lN 9 by decide) ?_
      refine jr_cS3v hg lk_X8_100 (by decide) (by decide) (Nat.le_of_ble_eq_true rfl) dX8_picture_28 (c_X8_in0 hI d rfl (by decide)) ?_
      refine jr_if_neZ (tgt := 38) hg dX8_picture_31 (by decide) (fun h31 => ?_) (fun h31 => ?_)
      · obtain ⟨k1, hk, rfl⟩ := zin_of (by decide) h9
        obtain ⟨f1, hf, rfl⟩ := zin_of (by decide) h19
        obtain ⟨d1, hd, rfl⟩ := zin_of (by decide) h31
        have hq : (zin (nI k1) 3 && (zin (nI f1) 2 && zin (nI d1) 10)) = true := by rw [h9, h19, h31]; rfl
        rcases Nat.lt_or_ge (s 0 0) 24 with hf | hf
        · have hx := zR_addP rall k1 f1 d1 b 0
          refine jr_aload_n hg 0 rfl rfl dX8_picture_38 ?_
          refine jr_iload_n hg 1 rfl rfl dX8_picture_39 ?_
          refine jr_iload_n hg 2 rfl rfl dX8_picture_40 ?_
          refine jr_iload_n hg 3 rfl rfl dX8_picture_41 ?_
          refine jr_iload hg 4 rfl dX8_picture_42 ?_
          refine jr_iconst hg (-1) dX8_picture_44 (by decide) ?_
          refine jr_cV5v hg lk_X8_161 (hI 35 (by decide)) rfl rfl (by decide) (by decide) (Nat.le_of_ble_eq_true rfl) dX8_picture_45 (c_X8_add hI Rp Wp hf (by rcases (show b = 0 ∨ b = 1 by omega) with r | r <;> subst r <;> simp)) ?_
          exact jr_iret hg rfl dX8_picture_48 (zq_okR (by rw [zq_picture, if_pos hq, if_pos hf, zn_nI (by omega), zn_nI (by omega), zn_nI (by omega)]) hx)
        · skip
          refine jr_aload_n hg 0 rfl rfl dX8_picture_38 ?_
          refine jr_iload_n hg 1 rfl rfl dX8_picture_39 ?_
          refine jr_iload_n hg 2 rfl rfl dX8_picture_40 ?_
          refine jr_iload_n hg 3 rfl rfl dX8_picture_41 ?_
          refine jr_iload hg 4 rfl dX8_picture_42 ?_
          refine jr_iconst hg (-1) dX8_picture_44 (by decide) ?_
          refine jr_cV5v hg lk_X8_161 (hI 35 (by decide)) rfl rfl (by decide) (by decide) (Nat.le_of_ble_eq_true rfl) dX8_picture_45 (c_X8_add_full hI Rp Wp (by omega)) ?_
          exact jr_iret hg rfl dX8_picture_48 (zq_okR (by rw [zq_picture, if_pos hq, if_neg (by omega)]) rall)
      · refine jr_sipush hg (-1002) dX8_picture_34 (by decide) ?_
        exact jr_iret hg rfl dX8_picture_37 (zq_okR (if_neg (by rw [h9, h19, h31]; simp)) rall)

set_option maxRecDepth 100000 in
theorem c_X8_mirror {E : mm_E} (hI : mm_FR E) {M : mm_M} {s : zS} (hR : zR s M) (hW : zW s) (p : Int32) : mm_Cal E mX8_mirror [.ref (E.1 35), .int p] M (fun v M' => v = some (.int (zq_mirror s p).1) ∧ zR (zq_mirror s p).2 M') := by
  obtain ⟨Rp, Rl, Rk, Rw, Rt, Rd, Ro, Rq⟩ := hR
  obtain ⟨Wp, Wl, Wk, Ww, Wt, Wd, Wo, Wq⟩ := hW
  have hnp := Wp.1
  have hnl := Wl.1
  have hnk := Wk.1
  have rall : zR s M := ⟨Rp, Rl, Rk, Rw, Rt, Rd, Ro, Rq⟩
  have wall : zW s := ⟨Wp, Wl, Wk, Ww, Wt, Wd, Wo, Wq⟩
  refine jr_entry RX8 (by decide +kernel) (Nat.le_of_ble_eq_true rfl) (fun g hg => ?_)
  refine jr_lv (lv' := [(0, .ref (E.1 35)), (1, .int p)]) [0, 1] rfl ?_
  refine jr_aload_n hg 0 rfl rfl dX8_mirror_0 ?_
  refine jr_iload_n hg 1 rfl rfl dX8_mirror_1 ?_
  refine jr_cV1v hg lk_X8_168 (hI 35 (by decide)) rfl rfl (by decide) (by decide) (Nat.le_of_ble_eq_true rfl) dX8_mirror_2 (c_X8_noPicture hI rall wall p) ?_
  refine jr_if_eqZ (tgt := 12) hg dX8_mirror_5 (by decide) (fun h5 => ?_) (fun h5 => ?_)
  · have zh5 := zbn h5
    obtain ⟨j, hj, rfl⟩ := zin_of (by omega) zh5
    have hj5 := (Wp.2 j hj).1
    refine jr_aload_n hg 0 rfl rfl dX8_mirror_12 ?_
    refine gf_X8_36 hg (hI 35 (by decide)) dX8_mirror_13 ?_
    refine jr_iload_n hg 1 rfl rfl dX8_mirror_16 ?_
    refine jr_ialdN hg (n := 24) (by omega) (by decide) (hI 43 (by decide)) (ac_43 _ _) dX8_mirror_17 ?_
    refine jr_top ((Rp.2 _ (by omega)).2.2.2.2) ?_
    refine jr_if_lt (tgt := 25) hg dX8_mirror_18 (by decide) (fun h18 => ?_) (fun h18 => ?_)
    · have h5z : s 5 j = 0 := (zmv_sgn (zW_mo Wp hj)).mp h18
      refine jr_aload_n hg 0 rfl rfl dX8_mirror_25 ?_
      refine jr_aload_n hg 0 rfl rfl dX8_mirror_26 ?_
      refine gf_X8_23 hg (hI 35 (by decide)) dX8_mirror_27 ?_
      refine jr_iload_n hg 1 rfl rfl dX8_mirror_30 ?_
      refine jr_ialdN hg (n := 24) (by omega) (by decide) (hI 39 (by decide)) (ac_39 _ _) dX8_mirror_31 ?_
      refine jr_top ((Rp.2 _ (by omega)).1) ?_
      refine jr_if_neN (tgt := 39) hg dX8_mirror_32 (by decide) (by omega) (fun h32 => ?_) (fun h32 => ?_)
      · refine jr_iconst hg (nI 3) dX8_mirror_39 (by decide) ?_
        refine jr_aload_n hg 0 rfl rfl dX8_mirror_40 ?_
        refine gf_X8_23 hg (hI 35 (by decide)) dX8_mirror_41 ?_
        refine jr_iload_n hg 1 rfl rfl dX8_mirror_44 ?_
        refine jr_ialdN hg (n := 24) (by omega) (by decide) (hI 39 (by decide)) (ac_39 _ _) dX8_mirror_45 ?_
        refine jr_top ((Rp.2 _ (by omega)).1) ?_
        refine jr_isubN hg dX8_mirror_46 (by omega) ?_
        have hk : z_tu (s 1 j) = (3 - s 1 j) := if_neg (by omega)
        refine jr_aload_n hg 0 rfl rfl dX8_mirror_47 ?_
        refine gf_X8_26 hg (hI 35 (by decide)) dX8_mirror_48 ?_
        refine jr_iload_n hg 1 rfl rfl dX8_mirror_51 ?_
        refine jr_ialdN hg (n := 24) (by omega) (by decide) (hI 40 (by decide)) (ac_40 _ _) dX8_mirror_52 ?_
        refine jr_top ((Rp.2 _ (by omega)).2.1) ?_
        refine jr_aload_n hg 0 rfl rfl dX8_mirror_53 ?_
        refine gf_X8_29 hg (hI 35 (by decide)) dX8_mirror_54 ?_
        refine jr_iload_n hg 1 rfl rfl dX8_mirror_57 ?_
        refine jr_ialdN hg (n := 24) (by omega) (by decide) (hI 41 (by decide)) (ac_41 _ _) dX8_mirror_58 ?_
        refine jr_top ((Rp.2 _ (by omega)).2.2.1) ?_
        refine jr_iconst hg (nI 0) dX8_mirror_59 (by decide) ?_
        refine jr_iload_n hg 1 rfl rfl dX8_mirror_60 ?_
        rcases Nat.lt_or_ge (s 0 0) 24 with hf | hf
        · have hx := (by have q := zR_addP rall (3 - s 1 j) (s 2 j) (s 3 j) 0 (j + 1); rw [zmv_s] at q; exact q : zR (zaddp s (3 - s 1 j) (s 2 j) (s 3 j) 0 (j + 1)) _)
          refine jr_cV5v hg lk_X8_161 (hI 35 (by decide)) rfl rfl (by decide) (by decide) (Nat.le_of_ble_eq_true rfl) dX8_mirror_61 (c_X8_add hI Rp Wp hf (Or.inl rfl)) ?_
          exact jr_iret hg rfl dX8_mirror_64 (zq_okR (by rw [zq_mirror, if_pos zh5, zn_nI (by omega), if_pos h5z, if_pos hf, hk]) hx)
        · skip
          refine jr_cV5v hg lk_X8_161 (hI 35 (by decide)) rfl rfl (by decide) (by decide) (Nat.le_of_ble_eq_true rfl) dX8_mirror_61 (c_X8_add_full hI Rp Wp (by omega)) ?_
          exact jr_iret hg rfl dX8_mirror_64 (zq_okR (by rw [zq_mirror, if_pos zh5, zn_nI (by omega), if_pos h5z, if_neg (by omega)]) rall)
      · refine jr_iconst hg (nI 0) dX8_mirror_35 (by decide) ?_
        refine jr_goto (tgt := 47) hg dX8_mirror_36 (by decide) ?_
        have hk : z_tu (s 1 j) = 0 := if_pos h32
        refine jr_aload_n hg 0 rfl rfl dX8_mirror_47 ?_
        refine gf_X8_26 hg (hI 35 (by decide)) dX8_mirror_48 ?_
        refine jr_iload_n hg 1 rfl rfl dX8_mirror_51 ?_
        refine jr_ialdN hg (n := 24) (by omega) (by decide) (hI 40 (by decide)) (ac_40 _ _) dX8_mirror_52 ?_
        refine jr_top ((Rp.2 _ (by omega)).2.1) ?_
        refine jr_aload_n hg 0 rfl rfl dX8_mirror_53 ?_
        refine gf_X8_29 hg (hI 35 (by decide)) dX8_mirror_54 ?_
        refine jr_iload_n hg 1 rfl rfl dX8_mirror_57 ?_
        refine jr_ialdN hg (n := 24) (by omega) (by decide) (hI 41 (by decide)) (ac_41 _ _) dX8_mirror_58 ?_
        refine jr_top ((Rp.2 _ (by omega)).2.2.1) ?_
        refine jr_iconst hg (nI 0) dX8_mirror_59 (by decide) ?_
        refine jr_iload_n hg 1 rfl rfl dX8_mirror_60 ?_
        rcases Nat.lt_or_ge (s 0 0) 24 with hf | hf
        · have hx := (by have q := zR_addP rall 0 (s 2 j) (s 3 j) 0 (j + 1); rw [zmv_s] at q; exact q : zR (zaddp s 0 (s 2 j) (s 3 j) 0 (j + 1)) _)
          refine jr_cV5v hg lk_X8_161 (hI 35 (by decide)) rfl rfl (by decide) (by decide) (Nat.le_of_ble_eq_true rfl) dX8_mirror_61 (c_X8_add hI Rp Wp hf (Or.inl rfl)) ?_
          exact jr_iret hg rfl dX8_mirror_64 (zq_okR (by rw [zq_mirror, if_pos zh5, zn_nI (by omega), if_pos h5z, if_pos hf, hk]) hx)
        · skip
          refine jr_cV5v hg lk_X8_161 (hI 35 (by decide)) rfl rfl (by decide) (by decide) (Nat.le_of_ble_eq_true rfl) dX8_mirror_61 (c_X8_add_full hI Rp Wp (by omega)) ?_
          exact jr_iret hg rfl dX8_mirror_64 (zq_okR (by rw [zq_mirror, if_pos zh5, zn_nI (by omega), if_pos h5z, if_neg (by omega)]) rall)
    · refine jr_sipush hg (-1003) dX8_mirror_21 (by decide) ?_
      exact jr_iret hg rfl dX8_mirror_24 (zq_okR (by rw [zq_mirror, if_pos zh5, zn_nI (by omega), if_neg (fun q => h18 ((zmv_sgn (zW_mo Wp hj)).mpr q))]) rall)
  · refine jr_sipush hg (-1001) dX8_mirror_8 (by decide) ?_
    exact jr_iret hg rfl dX8_mirror_11 (zq_okR (if_neg (zbf h5)) rall)

set_option maxRecDepth 100000 in
theorem c_X8_looker {E : mm_E} (hI : mm_FR E) {M : mm_M} {s : zS} (hR : zR s M) (hW : zW s) (x : Int32) : mm_Cal E mX8_looker [.ref (E.1 35), .int x] M (fun v M' => v = some (.int (zq_looker s x).1) ∧ zR (zq_looker s x).2 M') := by
  obtain ⟨Rp, Rl, Rk, Rw, Rt, Rd, Ro, Rq⟩ := hR
  obtain ⟨Wp, Wl, Wk, Ww, Wt, Wd, Wo, Wq⟩ := hW
  have hnp := Wp.1
  have hnl := Wl.1
  have hnk := Wk.1
  have rall : zR s M := ⟨Rp, Rl, Rk, Rw, Rt, Rd, Ro, Rq⟩
  have wall : zW s := ⟨Wp, Wl, Wk, Ww, Wt, Wd, Wo, Wq⟩
  refine jr_entry RX8 (by decide +kernel) (Nat.le_of_ble_eq_true rfl) (fun g hg => ?_)
  refine jr_lv (lv' := [(0, .ref (E.1 35)), (1, .int x)]) [0, 1] rfl ?_
  refine jr_iload_n hg 1 rfl rfl dX8_looker_0 ?_
  refine jr_i2l hg _ dX8_looker_1 rfl ?_
  refine jr_lconst hg (lN 0) dX8_looker_2 (by decide) ?_
  refine jr_ldc2 hg wm_10_14 dX8_looker_3 ?_
  refine jr_topl (show (5 : Int64) = lN 5 by decide) ?_
  refine jr_cS3v hg lk_X8_100 (by decide) (by decide) (Nat.le_of_ble_eq_true rfl) dX8_looker_6 (c_X8_in0 hI x rfl (by decide)) ?_
  refine jr_if_neZ (tgt := 16) hg dX8_looker_9 (by decide) (fun h9 => ?_) (fun h9 => ?_)
  · obtain ⟨x1, hx, rfl⟩ := zin_of (by decide) h9
    refine jr_aload_n hg 0 rfl rfl dX8_looker_16 ?_
    refine gf_X8_165 hg (hI 35 (by decide)) dX8_looker_17 ?_
    refine jr_top (Rl.1) ?_
    refine jr_bipush hg (nI 8) dX8_looker_20 (by decide) ?_
    refine jr_icmp_neN (tgt := 29) hg dX8_looker_22 (by decide) (by omega) (by omega) (fun h22 => ?_) (fun h22 => ?_)
    · refine jr_aload_n hg 0 rfl rfl dX8_looker_29 ?_
      refine gf_X8_39 hg (hI 35 (by decide)) dX8_looker_30 ?_
      refine jr_aload_n hg 0 rfl rfl dX8_looker_33 ?_
      refine gf_X8_165 hg (hI 35 (by decide)) dX8_looker_34 ?_
      refine jr_top (Rl.1) ?_
      refine jr_iload_n hg 1 rfl rfl dX8_looker_37 ?_
      refine jr_iastN hg (n := 8) (by omega) (by decide) (hI 44 (by decide)) (ac_44) dX8_looker_38 ?_
      refine jr_aload_n hg 0 rfl rfl dX8_looker_39 ?_
      refine jr_dup hg dX8_looker_40 rfl ?_
      refine gf_X8_165 hg (hI 35 (by decide)) dX8_looker_41 ?_
      refine jr_top (Rl.1) ?_
      refine jr_iconst hg (nI 1) dX8_looker_44 (by decide) ?_
      refine jr_iaddN hg dX8_looker_45 ?_
      refine pf_X8_165 hg (hI 35 (by decide)) dX8_looker_46 ?_
      refine jr_aload_n hg 0 rfl rfl dX8_looker_49 ?_
      refine gf_X8_165 hg (hI 35 (by decide)) dX8_looker_50 ?_
      refine jr_top ((rfl : _ = nI (s 0 1 + 1))) ?_
      refine jr_iconst hg (nI 1) dX8_looker_53 (by decide) ?_
      refine jr_isubN hg dX8_looker_54 (by omega) ?_
      exact jr_iret hg rfl dX8_looker_55 (zq_okR (by rw [zq_looker, if_pos h9, zn_nI (by omega), if_pos (by omega)]; rfl) (zR_addl rall x1))
    · refine jr_sipush hg (-1004) dX8_looker_25 (by decide) ?_
      exact jr_iret hg rfl dX8_looker_28 (zq_okR (by rw [zq_looker, if_pos h9, if_neg (by omega)]) rall)
  · refine jr_sipush hg (-1002) dX8_looker_12 (by decide) ?_
    exact jr_iret hg rfl dX8_looker_15 (zq_okR (if_neg (by rw [h9]; simp)) rall)

set_option maxRecDepth 100000 in
theorem c_X8_fault {E : mm_E} (hI : mm_FR E) {M : mm_M} {s : zS} (hR : zR s M) (hW : zW s) : mm_Cal E mX8_fault [.ref (E.1 35)] M (fun v M' => v = some (.int (zq_fault s).1) ∧ zR (zq_fault s).2 M') := by
  obtain ⟨Rp, Rl, Rk, Rw, Rt, Rd, Ro, Rq⟩ := hR
  obtain ⟨Wp, Wl, Wk, Ww, Wt, Wd, Wo, Wq⟩ := hW
  have hnp := Wp.1
  have hnl := Wl.1
  have hnk := Wk.1
  have rall : zR s M := ⟨Rp, Rl, Rk, Rw, Rt, Rd, Ro, Rq⟩
  have wall : zW s := ⟨Wp, Wl, Wk, Ww, Wt, Wd, Wo, Wq⟩
  refine jr_entry RX8 (by decide +kernel) (Nat.le_of_ble_eq_true rfl) (fun g hg => ?_)
  refine jr_lv (lv' := [(0, .ref (E.1 35))]) [0] rfl ?_
  refine jr_aload_n hg 0 rfl rfl dX8_fault_0 ?_
  refine gf_X8_19 hg (hI 35 (by decide)) dX8_fault_1 ?_
  refine jr_top (Rt.2.2) ?_
  exact jr_iret hg rfl dX8_fault_4 (zq_okR rfl rall)

set_option maxRecDepth 100000 in
theorem c_X8_law {E : mm_E} (hI : mm_FR E) {M : mm_M} {s : zS} (hR : zR s M) (hW : zW s) (x : Int32) : mm_Cal E mX8_law [.ref (E.1 35), .int x] M (fun v M' => v = some (.int (zq_law s x).1) ∧ zR (zq_law s x).2 M') := by
  obtain ⟨Rp, Rl, Rk, Rw, Rt, Rd, Ro, Rq⟩ := hR
  obtain ⟨Wp, Wl, Wk, Ww, Wt, Wd, Wo, Wq⟩ := hW
  have hnp := Wp.1
  have hnl := Wl.1
  have hnk := Wk.1
  have rall : zR s M := ⟨Rp, Rl, Rk, Rw, Rt, Rd, Ro, Rq⟩
  have wall : zW s := ⟨Wp, Wl, Wk, Ww, Wt, Wd, Wo, Wq⟩
  refine jr_entry RX8 (by decide +kernel) (Nat.le_of_ble_eq_true rfl) (fun g hg => ?_)
  refine jr_lv (lv' := [(0, .ref (E.1 35)), (1, .int x)]) [0, 1] rfl ?_
  refine jr_iload_n hg 1 rfl rfl dX8_law_0 ?_
  refine jr_i2l hg _ dX8_law_1 rfl ?_
  refine jr_lconst hg (lN 0) dX8_law_2 (by decide) ?_
  refine jr_ldc2 hg wm_18_15 dX8_law_3 ?_
  refine jr_topl (show (7 : Int64) = lN 7 by decide) ?_
  refine jr_cS3v hg lk_X8_100 (by decide) (by decide) (Nat.le_of_ble_eq_true rfl) dX8_law_6 (c_X8_in0 hI x rfl (by decide)) ?_
  refine jr_if_eqZ (tgt := 21) hg dX8_law_9 (by decide) (fun h9 => ?_) (fun h9 => ?_)
  · refine jr_sipush hg (-1002) dX8_law_21 (by decide) ?_
    exact jr_iret hg rfl dX8_law_24 (zq_okR (if_neg (by rw [h9]; simp)) rall)
  · obtain ⟨x1, hx, rfl⟩ := zin_of (by decide) h9
    refine jr_aload_n hg 0 rfl rfl dX8_law_12 ?_
    refine gf_X8_7 hg (hI 35 (by decide)) dX8_law_13 ?_
    refine jr_iload_n hg 1 rfl rfl dX8_law_16 ?_
    refine jr_ialdN hg (n := 8) (by omega) (by decide) (hI 36 (by decide)) (ac_36 _ _) dX8_law_17 ?_
    refine jr_top (Rw _ (by omega)) ?_
    refine jr_goto (tgt := 24) hg dX8_law_18 (by decide) ?_
    exact jr_iret hg rfl dX8_law_24 (zq_okR (by rw [zq_law, if_pos h9, zn_nI (by omega)]) rall)

set_option maxRecDepth 100000 in
theorem c_X8_count {E : mm_E} (hI : mm_FR E) {M : mm_M} {s : zS} (hR : zR s M) (hW : zW s) (x : Int32) : mm_Cal E mX8_count [.ref (E.1 35), .int x] M (fun v M' => v = some (.int (zq_count s x).1) ∧ zR (zq_count s x).2 M') := by
  obtain ⟨Rp, Rl, Rk, Rw, Rt, Rd, Ro, Rq⟩ := hR
  obtain ⟨Wp, Wl, Wk, Ww, Wt, Wd, Wo, Wq⟩ := hW
  have hnp := Wp.1
  have hnl := Wl.1
  have hnk := Wk.1
  have rall : zR s M := ⟨Rp, Rl, Rk, Rw, Rt, Rd, Ro, Rq⟩
  have wall : zW s := ⟨Wp, Wl, Wk, Ww, Wt, Wd, Wo, Wq⟩
  refine jr_entry RX8 (by decide +kernel) (Nat.le_of_ble_eq_true rfl) (fun g hg => ?_)
  refine jr_lv (lv' := [(0, .ref (E.1 35)), (1, .int x)]) [0, 1] rfl ?_
  refine jr_iload_n hg 1 rfl rfl dX8_count_0 ?_
  rcases zcase x 9 with hw | ⟨w0, hw, hw2, rfl⟩ | ⟨w0, hw, hw2, rfl⟩
  · refine jr_tabOut (tgt := 97) hg dX8_count_1 (Or.inl (zneg_ti hw)) (by decide) ?_
    refine jr_sipush hg (-1002) dX8_count_97 (by decide) ?_
    exact jr_iret hg rfl dX8_count_100 (zq_okR (by rw [zq_count, if_neg (by rw [zin_neg hw]; simp)]) rall)
  · rcases (show w0 = 0 ∨ w0 = 1 ∨ w0 = 2 ∨ w0 = 3 ∨ w0 = 4 ∨ w0 = 5 ∨ w0 = 6 ∨ w0 = 7 ∨ w0 = 8 by omega) with rfl | rfl | rfl | rfl | rfl | rfl | rfl | rfl | rfl
    · refine jr_tabIn (tgt := 52) hg dX8_count_1 (by decide) (by decide) rfl (by decide) ?_
      refine jr_aload_n hg 0 rfl rfl dX8_count_52 ?_
      refine gf_X8_154 hg (hI 35 (by decide)) dX8_count_53 ?_
      refine jr_top (Rp.1) ?_
      exact jr_iret hg rfl dX8_count_56 (zq_okR (by rw [zq_count, if_pos (by decide), show zn (nI 0) = 0 by decide]; rfl) rall)
    · refine jr_tabIn (tgt := 57) hg dX8_count_1 (by decide) (by decide) rfl (by decide) ?_
      refine jr_aload_n hg 0 rfl rfl dX8_count_57 ?_
      refine gf_X8_165 hg (hI 35 (by decide)) dX8_count_58 ?_
      refine jr_top (Rl.1) ?_
      exact jr_iret hg rfl dX8_count_61 (zq_okR (by rw [zq_count, if_pos (by decide), show zn (nI 1) = 1 by decide]; rfl) rall)
    · refine jr_tabIn (tgt := 62) hg dX8_count_1 (by decide) (by decide) rfl (by decide) ?_
      refine jr_aload_n hg 0 rfl rfl dX8_count_62 ?_
      refine gf_X8_174 hg (hI 35 (by decide)) dX8_count_63 ?_
      refine jr_top (Rk.1) ?_
      exact jr_iret hg rfl dX8_count_66 (zq_okR (by rw [zq_count, if_pos (by decide), show zn (nI 2) = 2 by decide]; rfl) rall)
    · refine jr_tabIn (tgt := 67) hg dX8_count_1 (by decide) (by decide) rfl (by decide) ?_
      refine jr_aload_n hg 0 rfl rfl dX8_count_67 ?_
      refine jr_cV0v hg lk_X8_192 (hI 35 (by decide)) rfl rfl (by decide) (by decide) (Nat.le_of_ble_eq_true rfl) dX8_count_68 (c_X8_knownMany hI rall wall) ?_
      exact jr_iret hg rfl dX8_count_71 (zq_okR (by rw [zq_count, if_pos (by decide), show zn (nI 3) = 3 by decide]; rfl) rall)
    · refine jr_tabIn (tgt := 72) hg dX8_count_1 (by decide) (by decide) rfl (by decide) ?_
      refine jr_aload_n hg 0 rfl rfl dX8_count_72 ?_
      refine jr_cV0v hg lk_X8_195 (hI 35 (by decide)) rfl rfl (by decide) (by decide) (Nat.le_of_ble_eq_true rfl) dX8_count_73 (c_X8_mirrors hI rall wall) ?_
      exact jr_iret hg rfl dX8_count_76 (zq_okR (by rw [zq_count, if_pos (by decide), show zn (nI 4) = 4 by decide]; rfl) rall)
    · refine jr_tabIn (tgt := 77) hg dX8_count_1 (by decide) (by decide) rfl (by decide) ?_
      refine jr_aload_n hg 0 rfl rfl dX8_count_77 ?_
      refine jr_cV0v hg lk_X8_198 (hI 35 (by decide)) rfl rfl (by decide) (by decide) (Nat.le_of_ble_eq_true rfl) dX8_count_78 (c_X8_doneMany hI rall wall) ?_
      exact jr_iret hg rfl dX8_count_81 (zq_okR (by rw [zq_count, if_pos (by decide), show zn (nI 5) = 5 by decide]; rfl) rall)
    · refine jr_tabIn (tgt := 82) hg dX8_count_1 (by decide) (by decide) rfl (by decide) ?_
      refine jr_aload_n hg 0 rfl rfl dX8_count_82 ?_
      refine gf_X8_104 hg (hI 35 (by decide)) dX8_count_83 ?_
      refine jr_top (Rt.1) ?_
      exact jr_iret hg rfl dX8_count_86 (zq_okR (by rw [zq_count, if_pos (by decide), show zn (nI 6) = 6 by decide]; rfl) rall)
    · refine jr_tabIn (tgt := 87) hg dX8_count_1 (by decide) (by decide) rfl (by decide) ?_
      refine jr_aload_n hg 0 rfl rfl dX8_count_87 ?_
      refine jr_cV0v hg lk_X8_201 (hI 35 (by decide)) rfl rfl (by decide) (by decide) (Nat.le_of_ble_eq_true rfl) dX8_count_88 (c_X8_staying hI rall wall) ?_
      exact jr_iret hg rfl dX8_count_91 (zq_okR (by rw [zq_count, if_pos (by decide), show zn (nI 7) = 7 by decide]; rfl) rall)
    · refine jr_tabIn (tgt := 92) hg dX8_count_1 (by decide) (by decide) rfl (by decide) ?_
      refine jr_aload_n hg 0 rfl rfl dX8_count_92 ?_
      refine gf_X8_204 hg (hI 35 (by decide)) dX8_count_93 ?_
      refine jr_top (Ro.2.2.2) ?_
      exact jr_iret hg rfl dX8_count_96 (zq_okR (by rw [zq_count, if_pos (by decide), show zn (nI 8) = 8 by decide]; rfl) rall)
  · refine jr_tabOut (tgt := 97) hg dX8_count_1 (Or.inr (by rw [nI_toInt hw2]; omega)) (by decide) ?_
    refine jr_sipush hg (-1002) dX8_count_97 (by decide) ?_
    exact jr_iret hg rfl dX8_count_100 (zq_okR (by rw [zq_count, if_neg (by rw [zin_f hw hw2]; simp)]) rall)

set_option maxRecDepth 100000 in
theorem c_X8_told {E : mm_E} (hI : mm_FR E) {M : mm_M} {s : zS} (hR : zR s M) (hW : zW s) (p w : Int32) : mm_Cal E mX8_told [.ref (E.1 35), .int p, .int w] M (fun v M' => v = some (.int (zq_told s p w).1) ∧ zR (zq_told s p w).2 M') := by
  obtain ⟨Rp, Rl, Rk, Rw, Rt, Rd, Ro, Rq⟩ := hR
  obtain ⟨Wp, Wl, Wk, Ww, Wt, Wd, Wo, Wq⟩ := hW
  have hnp := Wp.1
  have hnl := Wl.1
  have hnk := Wk.1
  have rall : zR s M := ⟨Rp, Rl, Rk, Rw, Rt, Rd, Ro, Rq⟩
  have wall : zW s := ⟨Wp, Wl, Wk, Ww, Wt, Wd, Wo, Wq⟩
  refine jr_entry RX8 (by decide +kernel) (Nat.le_of_ble_eq_true rfl) (fun g hg => ?_)
  refine jr_lv (lv' := [(0, .ref (E.1 35)), (1, .int p), (2, .int w)]) [0, 1, 2] rfl ?_
  refine jr_aload_n hg 0 rfl rfl dX8_told_0 ?_
  refine jr_iload_n hg 1 rfl rfl dX8_told_1 ?_
  refine jr_cV1v hg lk_X8_168 (hI 35 (by decide)) rfl rfl (by decide) (by decide) (Nat.le_of_ble_eq_true rfl) dX8_told_2 (c_X8_noPicture hI rall wall p) ?_
  refine jr_if_eqZ (tgt := 12) hg dX8_told_5 (by decide) (fun h5 => ?_) (fun h5 => ?_)
  · have zh5 := zbn h5
    obtain ⟨p1, hp, rfl⟩ := zin_of (by omega) zh5
    refine jr_iload_n hg 2 rfl rfl dX8_told_12 ?_
    rcases zcase w 8 with hw | ⟨w0, hw, hw2, rfl⟩ | ⟨w0, hw, hw2, rfl⟩
    · refine jr_tabOut (tgt := 119) hg dX8_told_13 (Or.inl (zneg_ti hw)) (by decide) ?_
      refine jr_sipush hg (-1002) dX8_told_119 (by decide) ?_
      exact jr_iret hg rfl dX8_told_122 (zq_okR (by rw [zq_told, if_pos zh5, if_neg (by rw [zin_neg hw]; simp)]) rall)
    · rcases (show w0 = 0 ∨ w0 = 1 ∨ w0 = 2 ∨ w0 = 3 ∨ w0 = 4 ∨ w0 = 5 ∨ w0 = 6 ∨ w0 = 7 by omega) with rfl | rfl | rfl | rfl | rfl | rfl | rfl | rfl
      · refine jr_tabIn (tgt := 60) hg dX8_told_13 (by decide) (by decide) rfl (by decide) ?_
        refine jr_aload_n hg 0 rfl rfl dX8_told_60 ?_
        refine gf_X8_23 hg (hI 35 (by decide)) dX8_told_61 ?_
        refine jr_iload_n hg 1 rfl rfl dX8_told_64 ?_
        refine jr_ialdN hg (n := 24) (by omega) (by decide) (hI 39 (by decide)) (ac_39 _ _) dX8_told_65 ?_
        refine jr_top ((Rp.2 _ (by omega)).1) ?_
        exact jr_iret hg rfl dX8_told_66 (zq_okR (by rw [zq_told, if_pos zh5, zn_nI (j := p1) (by omega), if_pos (by decide), show zn (nI 0) = 0 by decide]; rfl) rall)
      · refine jr_tabIn (tgt := 67) hg dX8_told_13 (by decide) (by decide) rfl (by decide) ?_
        refine jr_aload_n hg 0 rfl rfl dX8_told_67 ?_
        refine gf_X8_26 hg (hI 35 (by decide)) dX8_told_68 ?_
        refine jr_iload_n hg 1 rfl rfl dX8_told_71 ?_
        refine jr_ialdN hg (n := 24) (by omega) (by decide) (hI 40 (by decide)) (ac_40 _ _) dX8_told_72 ?_
        refine jr_top ((Rp.2 _ (by omega)).2.1) ?_
        exact jr_iret hg rfl dX8_told_73 (zq_okR (by rw [zq_told, if_pos zh5, zn_nI (j := p1) (by omega), if_pos (by decide), show zn (nI 1) = 1 by decide]; rfl) rall)
      · refine jr_tabIn (tgt := 74) hg dX8_told_13 (by decide) (by decide) rfl (by decide) ?_
        refine jr_aload_n hg 0 rfl rfl dX8_told_74 ?_
        refine gf_X8_29 hg (hI 35 (by decide)) dX8_told_75 ?_
        refine jr_iload_n hg 1 rfl rfl dX8_told_78 ?_
        refine jr_ialdN hg (n := 24) (by omega) (by decide) (hI 41 (by decide)) (ac_41 _ _) dX8_told_79 ?_
        refine jr_top ((Rp.2 _ (by omega)).2.2.1) ?_
        exact jr_iret hg rfl dX8_told_80 (zq_okR (by rw [zq_told, if_pos zh5, zn_nI (j := p1) (by omega), if_pos (by decide), show zn (nI 2) = 2 by decide]; rfl) rall)
      · refine jr_tabIn (tgt := 81) hg dX8_told_13 (by decide) (by decide) rfl (by decide) ?_
        refine jr_aload_n hg 0 rfl rfl dX8_told_81 ?_
        refine gf_X8_32 hg (hI 35 (by decide)) dX8_told_82 ?_
        refine jr_iload_n hg 1 rfl rfl dX8_told_85 ?_
        refine jr_zaldN hg (n := 24) (by omega) (by decide) (hI 42 (by decide)) (ac_42 _ _) dX8_told_86 ?_
        refine jr_top ((Rp.2 _ (by omega)).2.2.2.1) ?_
        refine jr_cS1v hg lk_X8_148 (by decide) (by decide) (Nat.le_of_ble_eq_true rfl) dX8_told_87 (c_X8_one hI ((Wp.2 p1 hp).2.2.2.1)) ?_
        exact jr_iret hg rfl dX8_told_90 (zq_okR (by rw [zq_told, if_pos zh5, zn_nI (j := p1) (by omega), if_pos (by decide), show zn (nI 3) = 3 by decide]; rfl) rall)
      · refine jr_tabIn (tgt := 91) hg dX8_told_13 (by decide) (by decide) rfl (by decide) ?_
        refine jr_aload_n hg 0 rfl rfl dX8_told_91 ?_
        refine gf_X8_36 hg (hI 35 (by decide)) dX8_told_92 ?_
        refine jr_iload_n hg 1 rfl rfl dX8_told_95 ?_
        refine jr_ialdN hg (n := 24) (by omega) (by decide) (hI 43 (by decide)) (ac_43 _ _) dX8_told_96 ?_
        refine jr_top ((Rp.2 _ (by omega)).2.2.2.2) ?_
        exact jr_iret hg rfl dX8_told_97 (zq_okR (by rw [zq_told, if_pos zh5, zn_nI (j := p1) (by omega), if_pos (by decide), show zn (nI 4) = 4 by decide]; rfl) rall)
      · refine jr_tabIn (tgt := 98) hg dX8_told_13 (by decide) (by decide) rfl (by decide) ?_
        refine jr_aload_n hg 0 rfl rfl dX8_told_98 ?_
        refine jr_iload_n hg 1 rfl rfl dX8_told_99 ?_
        refine jr_cV1v hg lk_X8_180 (hI 35 (by decide)) rfl rfl (by decide) (by decide) (Nat.le_of_ble_eq_true rfl) dX8_told_100 (c_X8_looksAt hI rall wall hp) ?_
        exact jr_iret hg rfl dX8_told_103 (zq_okR (by rw [zq_told, if_pos zh5, zn_nI (j := p1) (by omega), if_pos (by decide), show zn (nI 5) = 5 by decide]; rfl) rall)
      · refine jr_tabIn (tgt := 104) hg dX8_told_13 (by decide) (by decide) rfl (by decide) ?_
        refine jr_aload_n hg 0 rfl rfl dX8_told_104 ?_
        refine jr_iload_n hg 1 rfl rfl dX8_told_105 ?_
        refine jr_cV1v hg lk_X8_183 (hI 35 (by decide)) rfl rfl (by decide) (by decide) (Nat.le_of_ble_eq_true rfl) dX8_told_106 (c_X8_greens hI rall wall hp) ?_
        exact jr_iret hg rfl dX8_told_109 (zq_okR (by rw [zq_told, if_pos zh5, zn_nI (j := p1) (by omega), if_pos (by decide), show zn (nI 6) = 6 by decide]; rfl) rall)
      · refine jr_tabIn (tgt := 110) hg dX8_told_13 (by decide) (by decide) rfl (by decide) ?_
        refine jr_aload_n hg 0 rfl rfl dX8_told_110 ?_
        refine jr_iload_n hg 1 rfl rfl dX8_told_111 ?_
        refine jr_cV1v hg lk_X8_186 (hI 35 (by decide)) rfl rfl (by decide) (by decide) (Nat.le_of_ble_eq_true rfl) dX8_told_112 (c_X8_isDone hI rall wall hp) ?_
        refine jr_cS1v hg lk_X8_148 (by decide) (by decide) (Nat.le_of_ble_eq_true rfl) dX8_told_115 (c_X8_one hI (Bool.toNat_le _)) ?_
        exact jr_iret hg rfl dX8_told_118 (zq_okR (by rw [zq_told, if_pos zh5, zn_nI (j := p1) (by omega), if_pos (by decide), show zn (nI 7) = 7 by decide]; rfl) rall)
    · refine jr_tabOut (tgt := 119) hg dX8_told_13 (Or.inr (by rw [nI_toInt hw2]; omega)) (by decide) ?_
      refine jr_sipush hg (-1002) dX8_told_119 (by decide) ?_
      exact jr_iret hg rfl dX8_told_122 (zq_okR (by rw [zq_told, if_pos zh5, if_neg (by rw [zin_f hw hw2]; simp)]) rall)
  · refine jr_sipush hg (-1001) dX8_told_8 (by decide) ?_
    exact jr_iret hg rfl dX8_told_11 (zq_okR (if_neg (zbf h5)) rall)

set_option maxRecDepth 100000 in
theorem c_X8_seed {E : mm_E} (hI : mm_FR E) {M : mm_M} {s : zS} (hR : zR s M) (hW : zW s) (x : Int32) : mm_Cal E mX8_seed [.ref (E.1 35), .int x] M (fun v M' => v = some (.int (zq_seed s x).1) ∧ zR (zq_seed s x).2 M') := by
  obtain ⟨Rp, Rl, Rk, Rw, Rt, Rd, Ro, Rq⟩ := hR
  obtain ⟨Wp, Wl, Wk, Ww, Wt, Wd, Wo, Wq⟩ := hW
  have hnp := Wp.1
  have hnl := Wl.1
  have hnk := Wk.1
  have rall : zR s M := ⟨Rp, Rl, Rk, Rw, Rt, Rd, Ro, Rq⟩
  have wall : zW s := ⟨Wp, Wl, Wk, Ww, Wt, Wd, Wo, Wq⟩
  refine jr_entry RX8 (by decide +kernel) (Nat.le_of_ble_eq_true rfl) (fun g hg => ?_)
  refine jr_lv (lv' := [(0, .ref (E.1 35)), (1, .int x)]) [0, 1] rfl ?_
  refine jr_iload_n hg 1 rfl rfl dX8_seed_0 ?_
  refine jr_if_ge (tgt := 8) hg dX8_seed_1 (by decide) (fun h1 => ?_) (fun h1 => ?_)
  · obtain ⟨x1, hx1, rfl⟩ := nI_of (fun q => zlt_nle q h1)
    refine jr_aload_n hg 0 rfl rfl dX8_seed_8 ?_
    refine gf_X8_207 hg (hI 35 (by decide)) dX8_seed_9 ?_
    refine jr_top (Rd) ?_
    refine jr_istore_n hg dX8_seed_12 rfl (by decide) rfl ?_
    refine jr_aload_n hg 1 rfl rfl dX8_seed_13 ?_
    refine jr_iload_n hg 2 rfl rfl dX8_seed_14 ?_
    refine pf_X8_207 hg (hI 35 (by decide)) dX8_seed_15 ?_
    refine jr_iload_n hg 0 rfl rfl dX8_seed_18 ?_
    exact jr_iret hg rfl dX8_seed_19 (zq_okR (by rw [zq_seed, if_neg (fun q => zlt_nle q h1), zn_nI hx1]) (zR_seed rall x1))
  · refine jr_sipush hg (-1002) dX8_seed_4 (by decide) ?_
    exact jr_iret hg rfl dX8_seed_7 (zq_okR (if_pos (by rw [Int32.lt_iff_toInt_lt]; rw [Int32.le_iff_toInt_le] at h1; omega)) rall)

set_option maxRecDepth 100000 in
theorem c_X8_look {E : mm_E} (hI : mm_FR E) {M : mm_M} {s : zS} (hR : zR s M) (hW : zW s) (l p a : Int32) : mm_Cal E mX8_look [.ref (E.1 35), .int l, .int p, .int a] M (fun v M' => v = some (.int (zq_look s l p a).1) ∧ zR (zq_look s l p a).2 M') := by
  obtain ⟨Rp, Rl, Rk, Rw, Rt, Rd, Ro, Rq⟩ := hR
  obtain ⟨Wp, Wl, Wk, Ww, Wt, Wd, Wo, Wq⟩ := hW
  have hnp := Wp.1
  have hnl := Wl.1
  have hnk := Wk.1
  have rall : zR s M := ⟨Rp, Rl, Rk, Rw, Rt, Rd, Ro, Rq⟩
  have wall : zW s := ⟨Wp, Wl, Wk, Ww, Wt, Wd, Wo, Wq⟩
  refine jr_entry RX8 (by decide +kernel) (Nat.le_of_ble_eq_true rfl) (fun g hg => ?_)
  refine jr_lv (lv' := [(0, .ref (E.1 35)), (1, .int l), (2, .int p), (3, .int a)]) [0, 1, 2, 3] rfl ?_
  refine jr_aload_n hg 0 rfl rfl dX8_look_0 ?_
  refine jr_iload_n hg 1 rfl rfl dX8_look_1 ?_
  refine jr_cV1v hg lk_X8_217 (hI 35 (by decide)) rfl rfl (by decide) (by decide) (Nat.le_of_ble_eq_true rfl) dX8_look_2 (c_X8_noLooker hI rall wall l) ?_
  refine jr_if_neZ (tgt := 16) hg dX8_look_5 (by decide) (fun h5 => ?_) (fun h5 => ?_)
  · refine jr_sipush hg (-1001) dX8_look_16 (by decide) ?_
    exact jr_iret hg rfl dX8_look_19 (zq_okR (if_neg (by rw [zbt h5]; simp)) rall)
  · refine jr_aload_n hg 0 rfl rfl dX8_look_8 ?_
    refine jr_iload_n hg 2 rfl rfl dX8_look_9 ?_
    refine jr_cV1v hg lk_X8_168 (hI 35 (by decide)) rfl rfl (by decide) (by decide) (Nat.le_of_ble_eq_true rfl) dX8_look_10 (c_X8_noPicture hI rall wall p) ?_
    refine jr_if_eqZ (tgt := 20) hg dX8_look_13 (by decide) (fun h13 => ?_) (fun h13 => ?_)
    · refine jr_iload_n hg 3 rfl rfl dX8_look_20 ?_
      refine jr_i2l hg _ dX8_look_21 rfl ?_
      refine jr_lconst hg (lN 0) dX8_look_22 (by decide) ?_
      refine jr_ldc2 hg wm_25_23 dX8_look_23 ?_
      refine jr_topl (show (3 : Int64) = lN 3 by decide) ?_
      refine jr_cS3v hg lk_X8_100 (by decide) (by decide) (Nat.le_of_ble_eq_true rfl) dX8_look_26 (c_X8_in0 hI a rfl (by decide)) ?_
      refine jr_if_neZ (tgt := 36) hg dX8_look_29 (by decide) (fun h29 => ?_) (fun h29 => ?_)
      · have zh5 := zbn h5
        obtain ⟨l1, hl, rfl⟩ := zin_of (by omega) zh5
        have zh13 := zbn h13
        obtain ⟨p1, hp, rfl⟩ := zin_of (by omega) zh13
        obtain ⟨a1, ha, rfl⟩ := zin_of (by decide) h29
        have hq : (zin (nI l1) (s 0 1) && zin (nI p1) (s 0 0)) = true := by rw [zh5, zh13]; rfl
        refine jr_aload_n hg 0 rfl rfl dX8_look_36 ?_
        refine jr_iload_n hg 1 rfl rfl dX8_look_37 ?_
        refine jr_iload_n hg 2 rfl rfl dX8_look_38 ?_
        refine jr_cV2v hg lk_X8_222 (hI 35 (by decide)) rfl rfl (by decide) (by decide) (Nat.le_of_ble_eq_true rfl) dX8_look_39 (c_X8_lookOf hI rall wall hl hp) ?_
        refine jr_if_lt (tgt := 49) hg dX8_look_42 (by decide) (fun h42 => ?_) (fun h42 => ?_)
        · refine jr_aload_n hg 0 rfl rfl dX8_look_49 ?_
          refine gf_X8_174 hg (hI 35 (by decide)) dX8_look_50 ?_
          refine jr_top (Rk.1) ?_
          refine jr_sipush hg (nI 200) dX8_look_53 (by decide) ?_
          refine jr_icmp_neN (tgt := 65) hg dX8_look_56 (by decide) (by omega) (by omega) (fun h56 => ?_) (fun h56 => ?_)
          · refine jr_aload_n hg 0 rfl rfl dX8_look_65 ?_
            refine jr_iload_n hg 1 rfl rfl dX8_look_66 ?_
            refine jr_iload_n hg 2 rfl rfl dX8_look_67 ?_
            refine jr_iload_n hg 3 rfl rfl dX8_look_68 ?_
            refine jr_cV3v hg lk_X8_225 (hI 35 (by decide)) rfl rfl (by decide) (by decide) (Nat.le_of_ble_eq_true rfl) dX8_look_69 (c_X8_addLook hI Rk (by omega)) ?_
            exact jr_iret hg rfl dX8_look_72 (zq_okR (by rw [zq_look, if_pos hq, if_pos h29, zn_nI (by omega), zn_nI (by omega), zn_nI (by omega), if_pos (z_an_f.mpr ((zmv_sgn (zfind_lt Wk l1 p1)).mp h42)), if_pos (by omega)]) (zR_addk rall l1 p1 a1))
          · refine jr_sipush hg (-1004) dX8_look_59 (by decide) ?_
            refine jr_goto (tgt := 72) hg dX8_look_62 (by decide) ?_
            exact jr_iret hg rfl dX8_look_72 (zq_okR (by rw [zq_look, if_pos hq, if_pos h29, zn_nI (by omega), zn_nI (by omega), if_pos (z_an_f.mpr ((zmv_sgn (zfind_lt Wk l1 p1)).mp h42)), if_neg (by omega)]) rall)
        · refine jr_sipush hg (-1003) dX8_look_45 (by decide) ?_
          exact jr_iret hg rfl dX8_look_48 (zq_okR (by rw [zq_look, if_pos hq, if_pos h29, zn_nI (by omega), zn_nI (by omega), if_neg (fun q => h42 ((zmv_sgn (zfind_lt Wk l1 p1)).mpr (z_an_f.mp q)))]) rall)
      · refine jr_sipush hg (-1002) dX8_look_32 (by decide) ?_
        exact jr_iret hg rfl dX8_look_35 (zq_okR (by rw [zq_look, if_pos (by rw [zbn h5, zbn h13]; rfl), if_neg (by rw [h29]; simp)]) rall)
    · refine jr_sipush hg (-1001) dX8_look_16 (by decide) ?_
      exact jr_iret hg rfl dX8_look_19 (zq_okR (if_neg (by rw [zbn h5, zbt h13]; simp)) rall)

set_option maxRecDepth 100000 in
theorem c_X8_says {E : mm_E} (hI : mm_FR E) {M : mm_M} {s : zS} (hR : zR s M) (hW : zW s) (l p : Int32) : mm_Cal E mX8_says [.ref (E.1 35), .int l, .int p] M (fun v M' => v = some (.int (zq_says s l p).1) ∧ zR (zq_says s l p).2 M') := by
  obtain ⟨Rp, Rl, Rk, Rw, Rt, Rd, Ro, Rq⟩ := hR
  obtain ⟨Wp, Wl, Wk, Ww, Wt, Wd, Wo, Wq⟩ := hW
  have hnp := Wp.1
  have hnl := Wl.1
  have hnk := Wk.1
  have rall : zR s M := ⟨Rp, Rl, Rk, Rw, Rt, Rd, Ro, Rq⟩
  have wall : zW s := ⟨Wp, Wl, Wk, Ww, Wt, Wd, Wo, Wq⟩
  refine jr_entry RX8 (by decide +kernel) (Nat.le_of_ble_eq_true rfl) (fun g hg => ?_)
  refine jr_lv (lv' := [(0, .ref (E.1 35)), (1, .int l), (2, .int p)]) [0, 1, 2] rfl ?_
  refine jr_aload_n hg 0 rfl rfl dX8_says_0 ?_
  refine jr_iload_n hg 1 rfl rfl dX8_says_1 ?_
  refine jr_cV1v hg lk_X8_217 (hI 35 (by decide)) rfl rfl (by decide) (by decide) (Nat.le_of_ble_eq_true rfl) dX8_says_2 (c_X8_noLooker hI rall wall l) ?_
  refine jr_if_neZ (tgt := 16) hg dX8_says_5 (by decide) (fun h5 => ?_) (fun h5 => ?_)
  · refine jr_sipush hg (-1001) dX8_says_16 (by decide) ?_
    exact jr_iret hg rfl dX8_says_19 (zq_okR (if_neg (by rw [zbt h5]; simp)) rall)
  · refine jr_aload_n hg 0 rfl rfl dX8_says_8 ?_
    refine jr_iload_n hg 2 rfl rfl dX8_says_9 ?_
    refine jr_cV1v hg lk_X8_168 (hI 35 (by decide)) rfl rfl (by decide) (by decide) (Nat.le_of_ble_eq_true rfl) dX8_says_10 (c_X8_noPicture hI rall wall p) ?_
    refine jr_if_eqZ (tgt := 20) hg dX8_says_13 (by decide) (fun h13 => ?_) (fun h13 => ?_)
    · have zh5 := zbn h5
      obtain ⟨l1, hl, rfl⟩ := zin_of (by omega) zh5
      have zh13 := zbn h13
      obtain ⟨p1, hp, rfl⟩ := zin_of (by omega) zh13
      have hq : (zin (nI l1) (s 0 1) && zin (nI p1) (s 0 0)) = true := by rw [zh5, zh13]; rfl
      refine jr_aload_n hg 0 rfl rfl dX8_says_20 ?_
      refine jr_iload_n hg 1 rfl rfl dX8_says_21 ?_
      refine jr_iload_n hg 2 rfl rfl dX8_says_22 ?_
      refine jr_cV2v hg lk_X8_222 (hI 35 (by decide)) rfl rfl (by decide) (by decide) (Nat.le_of_ble_eq_true rfl) dX8_says_23 (c_X8_lookOf hI rall wall hl hp) ?_
      refine jr_if_lt (tgt := 33) hg dX8_says_26 (by decide) (fun h26 => ?_) (fun h26 => ?_)
      · refine jr_aload_n hg 0 rfl rfl dX8_says_33 ?_
        refine gf_X8_174 hg (hI 35 (by decide)) dX8_says_34 ?_
        refine jr_top (Rk.1) ?_
        refine jr_sipush hg (nI 200) dX8_says_37 (by decide) ?_
        refine jr_icmp_neN (tgt := 47) hg dX8_says_40 (by decide) (by omega) (by omega) (fun h40 => ?_) (fun h40 => ?_)
        · refine jr_aload_n hg 0 rfl rfl dX8_says_47 ?_
          refine jr_iload_n hg 1 rfl rfl dX8_says_48 ?_
          refine jr_iload_n hg 2 rfl rfl dX8_says_49 ?_
          refine jr_cV2v hg lk_X8_238 (hI 35 (by decide)) rfl rfl (by decide) (by decide) (Nat.le_of_ble_eq_true rfl) dX8_says_50 (c_X8_saidOf hI rall wall hl hp) ?_
          have Rk := zR_k_s (d := (z_said s l1 p1 (s 0 3)).2) Rk
          refine jr_istore_n hg dX8_says_53 rfl (by decide) rfl ?_
          refine jr_aload_n hg 1 rfl rfl dX8_says_54 ?_
          refine jr_iload_n hg 2 rfl rfl dX8_says_55 ?_
          refine jr_iload_n hg 3 rfl rfl dX8_says_56 ?_
          refine jr_iload_n hg 0 rfl rfl dX8_says_57 ?_
          refine jr_cV3v hg lk_X8_225 (hI 35 (by decide)) rfl rfl (by decide) (by decide) (Nat.le_of_ble_eq_true rfl) dX8_says_58 (c_X8_addLook hI Rk (by omega)) ?_
          refine jr_istore hg dX8_says_61 (by decide) rfl ?_
          refine jr_iload_n hg 1 rfl rfl dX8_says_63 ?_
          exact jr_iret hg rfl dX8_says_64 (zq_okR (by rw [zq_says, if_pos hq, zn_nI (by omega), zn_nI (by omega), if_pos (z_an_f.mpr ((zmv_sgn (zfind_lt Wk l1 p1)).mp h26)), if_pos (by omega)]) (zR_look rall l1 p1))
        · refine jr_sipush hg (-1004) dX8_says_43 (by decide) ?_
          exact jr_iret hg rfl dX8_says_46 (zq_okR (by rw [zq_says, if_pos hq, zn_nI (by omega), zn_nI (by omega), if_pos (z_an_f.mpr ((zmv_sgn (zfind_lt Wk l1 p1)).mp h26)), if_neg (by omega)]) rall)
      · refine jr_sipush hg (-1003) dX8_says_29 (by decide) ?_
        exact jr_iret hg rfl dX8_says_32 (zq_okR (by rw [zq_says, if_pos hq, zn_nI (by omega), zn_nI (by omega), if_neg (fun q => h26 ((zmv_sgn (zfind_lt Wk l1 p1)).mpr (z_an_f.mp q)))]) rall)
    · refine jr_sipush hg (-1001) dX8_says_16 (by decide) ?_
      exact jr_iret hg rfl dX8_says_19 (zq_okR (if_neg (by rw [zbn h5, zbt h13]; simp)) rall)

set_option maxRecDepth 100000 in
theorem c_X8_about {E : mm_E} (hI : mm_FR E) {M : mm_M} {s : zS} (hR : zR s M) (hW : zW s) (k w : Int32) : mm_Cal E mX8_about [.ref (E.1 35), .int k, .int w] M (fun v M' => v = some (.int (zq_about s k w).1) ∧ zR (zq_about s k w).2 M') := by
  obtain ⟨Rp, Rl, Rk, Rw, Rt, Rd, Ro, Rq⟩ := hR
  obtain ⟨Wp, Wl, Wk, Ww, Wt, Wd, Wo, Wq⟩ := hW
  have hnp := Wp.1
  have hnl := Wl.1
  have hnk := Wk.1
  have rall : zR s M := ⟨Rp, Rl, Rk, Rw, Rt, Rd, Ro, Rq⟩
  have wall : zW s := ⟨Wp, Wl, Wk, Ww, Wt, Wd, Wo, Wq⟩
  refine jr_entry RX8 (by decide +kernel) (Nat.le_of_ble_eq_true rfl) (fun g hg => ?_)
  refine jr_lv (lv' := [(0, .ref (E.1 35)), (1, .int k), (2, .int w)]) [0, 1, 2] rfl ?_
  refine jr_iload_n hg 1 rfl rfl dX8_about_0 ?_
  refine jr_i2l hg _ dX8_about_1 rfl ?_
  refine jr_lconst hg (lN 0) dX8_about_2 (by decide) ?_
  refine jr_aload_n hg 0 rfl rfl dX8_about_3 ?_
  refine gf_X8_174 hg (hI 35 (by decide)) dX8_about_4 ?_
  refine jr_top (Rk.1) ?_
  refine jr_iconst hg (nI 1) dX8_about_7 (by decide) ?_
  refine jr_isub hg dX8_about_8 ?_
  refine jr_i2l hg _ dX8_about_9 rfl ?_
  refine jr_cS3v hg lk_X8_100 (by decide) (by decide) (Nat.le_of_ble_eq_true rfl) dX8_about_10 (c_X8_inM hI k rfl (by omega)) ?_
  refine jr_if_neZ (tgt := 20) hg dX8_about_13 (by decide) (fun h13 => ?_) (fun h13 => ?_)
  · obtain ⟨k1, hk, rfl⟩ := zin_of (by omega) h13
    refine jr_iload_n hg 2 rfl rfl dX8_about_20 ?_
    rcases zcase w 4 with hw | ⟨w0, hw, hw2, rfl⟩ | ⟨w0, hw, hw2, rfl⟩
    · refine jr_tabOut (tgt := 82) hg dX8_about_21 (Or.inl (zneg_ti hw)) (by decide) ?_
      refine jr_sipush hg (-1002) dX8_about_82 (by decide) ?_
      exact jr_iret hg rfl dX8_about_85 (zq_okR (by rw [zq_about, if_pos h13, if_neg (by rw [zin_neg hw]; simp)]) rall)
    · rcases (show w0 = 0 ∨ w0 = 1 ∨ w0 = 2 ∨ w0 = 3 by omega) with rfl | rfl | rfl | rfl
      · refine jr_tabIn (tgt := 52) hg dX8_about_21 (by decide) (by decide) rfl (by decide) ?_
        refine jr_aload_n hg 0 rfl rfl dX8_about_52 ?_
        refine gf_X8_42 hg (hI 35 (by decide)) dX8_about_53 ?_
        refine jr_iload_n hg 1 rfl rfl dX8_about_56 ?_
        refine jr_ialdN hg (n := 200) (by omega) (by decide) (hI 45 (by decide)) (ac_45 _ _) dX8_about_57 ?_
        refine jr_top ((Rk.2 _ (by omega)).1) ?_
        exact jr_iret hg rfl dX8_about_58 (zq_okR (by rw [zq_about, if_pos h13, zn_nI (j := k1) (by omega), if_pos (by decide), show zn (nI 0) = 0 by decide]; rfl) rall)
      · refine jr_tabIn (tgt := 59) hg dX8_about_21 (by decide) (by decide) rfl (by decide) ?_
        refine jr_aload_n hg 0 rfl rfl dX8_about_59 ?_
        refine gf_X8_45 hg (hI 35 (by decide)) dX8_about_60 ?_
        refine jr_iload_n hg 1 rfl rfl dX8_about_63 ?_
        refine jr_ialdN hg (n := 200) (by omega) (by decide) (hI 46 (by decide)) (ac_46 _ _) dX8_about_64 ?_
        refine jr_top ((Rk.2 _ (by omega)).2.1) ?_
        exact jr_iret hg rfl dX8_about_65 (zq_okR (by rw [zq_about, if_pos h13, zn_nI (j := k1) (by omega), if_pos (by decide), show zn (nI 1) = 1 by decide]; rfl) rall)
      · refine jr_tabIn (tgt := 66) hg dX8_about_21 (by decide) (by decide) rfl (by decide) ?_
        refine jr_aload_n hg 0 rfl rfl dX8_about_66 ?_
        refine gf_X8_48 hg (hI 35 (by decide)) dX8_about_67 ?_
        refine jr_iload_n hg 1 rfl rfl dX8_about_70 ?_
        refine jr_ialdN hg (n := 200) (by omega) (by decide) (hI 47 (by decide)) (ac_47 _ _) dX8_about_71 ?_
        refine jr_top ((Rk.2 _ (by omega)).2.2) ?_
        exact jr_iret hg rfl dX8_about_72 (zq_okR (by rw [zq_about, if_pos h13, zn_nI (j := k1) (by omega), if_pos (by decide), show zn (nI 2) = 2 by decide]; rfl) rall)
      · refine jr_tabIn (tgt := 73) hg dX8_about_21 (by decide) (by decide) rfl (by decide) ?_
        refine jr_aload_n hg 0 rfl rfl dX8_about_73 ?_
        refine jr_iload_n hg 1 rfl rfl dX8_about_74 ?_
        refine jr_cV1v hg lk_X8_241 (hI 35 (by decide)) rfl rfl (by decide) (by decide) (Nat.le_of_ble_eq_true rfl) dX8_about_75 (c_X8_counts hI rall wall hk) ?_
        refine jr_cS1v hg lk_X8_148 (by decide) (by decide) (Nat.le_of_ble_eq_true rfl) dX8_about_78 (c_X8_one hI (Bool.toNat_le _)) ?_
        exact jr_iret hg rfl dX8_about_81 (zq_okR (by rw [zq_about, if_pos h13, zn_nI (j := k1) (by omega), if_pos (by decide), show zn (nI 3) = 3 by decide]; rfl) rall)
    · refine jr_tabOut (tgt := 82) hg dX8_about_21 (Or.inr (by rw [nI_toInt hw2]; omega)) (by decide) ?_
      refine jr_sipush hg (-1002) dX8_about_82 (by decide) ?_
      exact jr_iret hg rfl dX8_about_85 (zq_okR (by rw [zq_about, if_pos h13, if_neg (by rw [zin_f hw hw2]; simp)]) rall)
  · refine jr_sipush hg (-1001) dX8_about_16 (by decide) ?_
    exact jr_iret hg rfl dX8_about_19 (zq_okR (if_neg (by rw [h13]; simp)) rall)

set_option maxRecDepth 100000 in
theorem c_X8_next {E : mm_E} (hI : mm_FR E) {M : mm_M} {s : zS} (hR : zR s M) (hW : zW s) (l r : Int32) : mm_Cal E mX8_next [.ref (E.1 35), .int l, .int r] M (fun v M' => v = some (.int (zq_next s l r).1) ∧ zR (zq_next s l r).2 M') := by
  obtain ⟨Rp, Rl, Rk, Rw, Rt, Rd, Ro, Rq⟩ := hR
  obtain ⟨Wp, Wl, Wk, Ww, Wt, Wd, Wo, Wq⟩ := hW
  have hnp := Wp.1
  have hnl := Wl.1
  have hnk := Wk.1
  have rall : zR s M := ⟨Rp, Rl, Rk, Rw, Rt, Rd, Ro, Rq⟩
  have wall : zW s := ⟨Wp, Wl, Wk, Ww, Wt, Wd, Wo, Wq⟩
  refine jr_entry RX8 (by decide +kernel) (Nat.le_of_ble_eq_true rfl) (fun g hg => ?_)
  refine jr_lv (lv' := [(0, .ref (E.1 35)), (1, .int l), (2, .int r)]) [0, 1, 2] rfl ?_
  refine jr_aload_n hg 0 rfl rfl dX8_next_0 ?_
  refine jr_iload_n hg 1 rfl rfl dX8_next_1 ?_
  refine jr_cV1v hg lk_X8_217 (hI 35 (by decide)) rfl rfl (by decide) (by decide) (Nat.le_of_ble_eq_true rfl) dX8_next_2 (c_X8_noLooker hI rall wall l) ?_
  refine jr_if_eqZ (tgt := 12) hg dX8_next_5 (by decide) (fun h5 => ?_) (fun h5 => ?_)
  · refine jr_iload_n hg 2 rfl rfl dX8_next_12 ?_
    refine jr_i2l hg _ dX8_next_13 rfl ?_
    refine jr_lconst hg (lN 0) dX8_next_14 (by decide) ?_
    refine jr_ldc2 hg wm_8_0 dX8_next_15 ?_
    refine jr_topl (show (2 : Int64) = lN 2 by decide) ?_
    refine jr_cS3v hg lk_X8_100 (by decide) (by decide) (Nat.le_of_ble_eq_true rfl) dX8_next_18 (c_X8_in0 hI r rfl (by decide)) ?_
    refine jr_if_eqZ (tgt := 33) hg dX8_next_21 (by decide) (fun h21 => ?_) (fun h21 => ?_)
    · refine jr_sipush hg (-1002) dX8_next_33 (by decide) ?_
      exact jr_iret hg rfl dX8_next_36 (zq_okR (by rw [zq_next, if_pos (zbn h5), if_neg (by rw [h21]; simp)]) rall)
    · have zh5 := zbn h5
      obtain ⟨l1, hl, rfl⟩ := zin_of (by omega) zh5
      obtain ⟨r1, hr, rfl⟩ := zin_of (by decide) h21
      refine jr_aload_n hg 0 rfl rfl dX8_next_24 ?_
      refine jr_iload_n hg 1 rfl rfl dX8_next_25 ?_
      refine jr_iload_n hg 2 rfl rfl dX8_next_26 ?_
      refine jr_cV2v hg lk_X8_244 (hI 35 (by decide)) rfl rfl (by decide) (by decide) (Nat.le_of_ble_eq_true rfl) dX8_next_27 (c_X8_nextOf hI rall wall hl (by omega)) ?_
      refine jr_goto (tgt := 36) hg dX8_next_30 (by decide) ?_
      exact jr_iret hg rfl dX8_next_36 (zq_okR (by rw [zq_next, if_pos zh5, if_pos h21, zn_nI (by omega), zn_nI (by omega)]) rall)
  · refine jr_sipush hg (-1001) dX8_next_8 (by decide) ?_
    exact jr_iret hg rfl dX8_next_11 (zq_okR (if_neg (zbf h5)) rall)

set_option maxRecDepth 100000 in
theorem c_X8_stays {E : mm_E} (hI : mm_FR E) {M : mm_M} {s : zS} (hR : zR s M) (hW : zW s) (l : Int32) : mm_Cal E mX8_stays [.ref (E.1 35), .int l] M (fun v M' => v = some (.int (zq_stays s l).1) ∧ zR (zq_stays s l).2 M') := by
  obtain ⟨Rp, Rl, Rk, Rw, Rt, Rd, Ro, Rq⟩ := hR
  obtain ⟨Wp, Wl, Wk, Ww, Wt, Wd, Wo, Wq⟩ := hW
  have hnp := Wp.1
  have hnl := Wl.1
  have hnk := Wk.1
  have rall : zR s M := ⟨Rp, Rl, Rk, Rw, Rt, Rd, Ro, Rq⟩
  have wall : zW s := ⟨Wp, Wl, Wk, Ww, Wt, Wd, Wo, Wq⟩
  refine jr_entry RX8 (by decide +kernel) (Nat.le_of_ble_eq_true rfl) (fun g hg => ?_)
  refine jr_lv (lv' := [(0, .ref (E.1 35)), (1, .int l)]) [0, 1] rfl ?_
  refine jr_aload_n hg 0 rfl rfl dX8_stays_0 ?_
  refine jr_iload_n hg 1 rfl rfl dX8_stays_1 ?_
  refine jr_cV1v hg lk_X8_217 (hI 35 (by decide)) rfl rfl (by decide) (by decide) (Nat.le_of_ble_eq_true rfl) dX8_stays_2 (c_X8_noLooker hI rall wall l) ?_
  refine jr_if_eqZ (tgt := 14) hg dX8_stays_5 (by decide) (fun h5 => ?_) (fun h5 => ?_)
  · have zh5 := zbn h5
    obtain ⟨l1, hl, rfl⟩ := zin_of (by omega) zh5
    refine jr_aload_n hg 0 rfl rfl dX8_stays_14 ?_
    refine jr_iload_n hg 1 rfl rfl dX8_stays_15 ?_
    refine jr_cV1v hg lk_X8_189 (hI 35 (by decide)) rfl rfl (by decide) (by decide) (Nat.le_of_ble_eq_true rfl) dX8_stays_16 (c_X8_isStaying hI rall wall hl) ?_
    refine jr_cS1v hg lk_X8_148 (by decide) (by decide) (Nat.le_of_ble_eq_true rfl) dX8_stays_19 (c_X8_one hI (Bool.toNat_le _)) ?_
    exact jr_iret hg rfl dX8_stays_22 (zq_okR (by rw [zq_stays, if_pos zh5, zn_nI (by omega)]) rall)
  · refine jr_sipush hg (-1001) dX8_stays_8 (by decide) ?_
    refine jr_goto (tgt := 22) hg dX8_stays_11 (by decide) ?_
    exact jr_iret hg rfl dX8_stays_22 (zq_okR (if_neg (zbf h5)) rall)

set_option maxRecDepth 100000 in
theorem c_X8_odds {E : mm_E} (hI : mm_FR E) {M : mm_M} {s : zS} (hR : zR s M) (hW : zW s) (p k : Int32) : mm_Cal E mX8_odds [.ref (E.1 35), .int p, .int k] M (fun v M' => v = some (.int (zq_odds s p k).1) ∧ zR (zq_odds s p k).2 M') := by
  obtain ⟨Rp, Rl, Rk, Rw, Rt, Rd, Ro, Rq⟩ := hR
  obtain ⟨Wp, Wl, Wk, Ww, Wt, Wd, Wo, Wq⟩ := hW
  have hnp := Wp.1
  have hnl := Wl.1
  have hnk := Wk.1
  have rall : zR s M := ⟨Rp, Rl, Rk, Rw, Rt, Rd, Ro, Rq⟩
  have wall : zW s := ⟨Wp, Wl, Wk, Ww, Wt, Wd, Wo, Wq⟩
  refine jr_entry RX8 (by decide +kernel) (Nat.le_of_ble_eq_true rfl) (fun g hg => ?_)
  refine jr_lv (lv' := [(0, .ref (E.1 35)), (1, .int p), (2, .int k)]) [0, 1, 2] rfl ?_
  refine jr_aload_n hg 0 rfl rfl dX8_odds_0 ?_
  refine jr_iload_n hg 1 rfl rfl dX8_odds_1 ?_
  refine jr_cV1v hg lk_X8_168 (hI 35 (by decide)) rfl rfl (by decide) (by decide) (Nat.le_of_ble_eq_true rfl) dX8_odds_2 (c_X8_noPicture hI rall wall p) ?_
  refine jr_if_eqZ (tgt := 12) hg dX8_odds_5 (by decide) (fun h5 => ?_) (fun h5 => ?_)
  · refine jr_iload_n hg 2 rfl rfl dX8_odds_12 ?_
    refine jr_i2l hg _ dX8_odds_13 rfl ?_
    refine jr_lconst hg (lN 0) dX8_odds_14 (by decide) ?_
    refine jr_ldc2 hg wm_8_0 dX8_odds_15 ?_
    refine jr_topl (show (2 : Int64) = lN 2 by decide) ?_
    refine jr_cS3v hg lk_X8_100 (by decide) (by decide) (Nat.le_of_ble_eq_true rfl) dX8_odds_18 (c_X8_in0 hI k rfl (by decide)) ?_
    refine jr_if_eqZ (tgt := 37) hg dX8_odds_21 (by decide) (fun h21 => ?_) (fun h21 => ?_)
    · refine jr_sipush hg (-1002) dX8_odds_37 (by decide) ?_
      exact jr_iret hg rfl dX8_odds_40 (zq_okR (by rw [zq_odds, if_pos (zbn h5), if_neg (by rw [h21]; simp)]) rall)
    · have zh5 := zbn h5
      obtain ⟨p1, hp, rfl⟩ := zin_of (by omega) zh5
      obtain ⟨k1, hk, rfl⟩ := zin_of (by decide) h21
      refine jr_aload_n hg 0 rfl rfl dX8_odds_24 ?_
      refine gf_X8_51 hg (hI 35 (by decide)) dX8_odds_25 ?_
      refine jr_iconst hg (nI 3) dX8_odds_28 (by decide) ?_
      refine jr_iload_n hg 1 rfl rfl dX8_odds_29 ?_
      refine jr_imulN hg dX8_odds_30 ?_
      refine jr_iload_n hg 2 rfl rfl dX8_odds_31 ?_
      refine jr_iaddN hg dX8_odds_32 ?_
      refine jr_ialdN hg (n := 72) (by omega) (by decide) (hI 48 (by decide)) (ac_48 _ _) dX8_odds_33 ?_
      refine jr_top (Ro.1 _ (by omega)) ?_
      refine jr_goto (tgt := 40) hg dX8_odds_34 (by decide) ?_
      exact jr_iret hg rfl dX8_odds_40 (zq_okR (by rw [zq_odds, if_pos zh5, if_pos h21, zn_nI (by omega), zn_nI (by omega)]) rall)
  · refine jr_sipush hg (-1001) dX8_odds_8 (by decide) ?_
    exact jr_iret hg rfl dX8_odds_11 (zq_okR (if_neg (zbf h5)) rall)

set_option maxRecDepth 100000 in
theorem c_X8_table {E : mm_E} (hI : mm_FR E) {M : mm_M} {s : zS} (hR : zR s M) (hW : zW s) (l k a : Int32) : mm_Cal E mX8_table [.ref (E.1 35), .int l, .int k, .int a] M (fun v M' => v = some (.int (zq_table s l k a).1) ∧ zR (zq_table s l k a).2 M') := by
  obtain ⟨Rp, Rl, Rk, Rw, Rt, Rd, Ro, Rq⟩ := hR
  obtain ⟨Wp, Wl, Wk, Ww, Wt, Wd, Wo, Wq⟩ := hW
  have hnp := Wp.1
  have hnl := Wl.1
  have hnk := Wk.1
  have rall : zR s M := ⟨Rp, Rl, Rk, Rw, Rt, Rd, Ro, Rq⟩
  have wall : zW s := ⟨Wp, Wl, Wk, Ww, Wt, Wd, Wo, Wq⟩
  refine jr_entry RX8 (by decide +kernel) (Nat.le_of_ble_eq_true rfl) (fun g hg => ?_)
  refine jr_lv (lv' := [(0, .ref (E.1 35)), (1, .int l), (2, .int k), (3, .int a)]) [0, 1, 2, 3] rfl ?_
  refine jr_aload_n hg 0 rfl rfl dX8_table_0 ?_
  refine jr_iload_n hg 1 rfl rfl dX8_table_1 ?_
  refine jr_cV1v hg lk_X8_217 (hI 35 (by decide)) rfl rfl (by decide) (by decide) (Nat.le_of_ble_eq_true rfl) dX8_table_2 (c_X8_noLooker hI rall wall l) ?_
  refine jr_if_eqZ (tgt := 12) hg dX8_table_5 (by decide) (fun h5 => ?_) (fun h5 => ?_)
  · refine jr_iload_n hg 2 rfl rfl dX8_table_12 ?_
    refine jr_i2l hg _ dX8_table_13 rfl ?_
    refine jr_lconst hg (lN 0) dX8_table_14 (by decide) ?_
    refine jr_ldc2 hg wm_8_0 dX8_table_15 ?_
    refine jr_topl (show (2 : Int64) = lN 2 by decide) ?_
    refine jr_cS3v hg lk_X8_100 (by decide) (by decide) (Nat.le_of_ble_eq_true rfl) dX8_table_18 (c_X8_in0 hI k rfl (by decide)) ?_
    refine jr_if_eqZ (tgt := 54) hg dX8_table_21 (by decide) (fun h21 => ?_) (fun h21 => ?_)
    · refine jr_sipush hg (-1002) dX8_table_54 (by decide) ?_
      exact jr_iret hg rfl dX8_table_57 (zq_okR (by rw [zq_table, if_pos (zbn h5), if_neg (by rw [h21]; simp)]) rall)
    · refine jr_iload_n hg 3 rfl rfl dX8_table_24 ?_
      refine jr_i2l hg _ dX8_table_25 rfl ?_
      refine jr_lconst hg (lN 0) dX8_table_26 (by decide) ?_
      refine jr_ldc2 hg wm_25_23 dX8_table_27 ?_
      refine jr_topl (show (3 : Int64) = lN 3 by decide) ?_
      refine jr_cS3v hg lk_X8_100 (by decide) (by decide) (Nat.le_of_ble_eq_true rfl) dX8_table_30 (c_X8_in0 hI a rfl (by decide)) ?_
      refine jr_if_eqZ (tgt := 54) hg dX8_table_33 (by decide) (fun h33 => ?_) (fun h33 => ?_)
      · refine jr_sipush hg (-1002) dX8_table_54 (by decide) ?_
        exact jr_iret hg rfl dX8_table_57 (zq_okR (by rw [zq_table, if_pos (zbn h5), if_neg (by rw [h21, h33]; simp)]) rall)
      · have zh5 := zbn h5
        obtain ⟨l1, hl, rfl⟩ := zin_of (by omega) zh5
        obtain ⟨k1, hk, rfl⟩ := zin_of (by decide) h21
        obtain ⟨a1, ha, rfl⟩ := zin_of (by decide) h33
        refine jr_aload_n hg 0 rfl rfl dX8_table_36 ?_
        refine gf_X8_54 hg (hI 35 (by decide)) dX8_table_37 ?_
        refine jr_bipush hg (nI 12) dX8_table_40 (by decide) ?_
        refine jr_iload_n hg 1 rfl rfl dX8_table_42 ?_
        refine jr_imulN hg dX8_table_43 ?_
        refine jr_iconst hg (nI 4) dX8_table_44 (by decide) ?_
        refine jr_iload_n hg 2 rfl rfl dX8_table_45 ?_
        refine jr_imulN hg dX8_table_46 ?_
        refine jr_iaddN hg dX8_table_47 ?_
        refine jr_iload_n hg 3 rfl rfl dX8_table_48 ?_
        refine jr_iaddN hg dX8_table_49 ?_
        refine jr_ialdN hg (n := 96) (by omega) (by decide) (hI 49 (by decide)) (ac_49 _ _) dX8_table_50 ?_
        refine jr_top (Ro.2.1 _ (by omega)) ?_
        refine jr_goto (tgt := 57) hg dX8_table_51 (by decide) ?_
        exact jr_iret hg rfl dX8_table_57 (zq_okR (by rw [zq_table, if_pos zh5, if_pos (by rw [h21, h33]; rfl), zn_nI (by omega), zn_nI (by omega), zn_nI (by omega)]) rall)
  · refine jr_sipush hg (-1001) dX8_table_8 (by decide) ?_
    exact jr_iret hg rfl dX8_table_11 (zq_okR (if_neg (zbf h5)) rall)

set_option maxRecDepth 100000 in
theorem c_X8_sky {E : mm_E} (hI : mm_FR E) {M : mm_M} {s : zS} (hR : zR s M) (hW : zW s) (k : Int32) : mm_Cal E mX8_sky [.ref (E.1 35), .int k] M (fun v M' => v = some (.int (zq_sky s k).1) ∧ zR (zq_sky s k).2 M') := by
  obtain ⟨Rp, Rl, Rk, Rw, Rt, Rd, Ro, Rq⟩ := hR
  obtain ⟨Wp, Wl, Wk, Ww, Wt, Wd, Wo, Wq⟩ := hW
  have hnp := Wp.1
  have hnl := Wl.1
  have hnk := Wk.1
  have rall : zR s M := ⟨Rp, Rl, Rk, Rw, Rt, Rd, Ro, Rq⟩
  have wall : zW s := ⟨Wp, Wl, Wk, Ww, Wt, Wd, Wo, Wq⟩
  refine jr_entry RX8 (by decide +kernel) (Nat.le_of_ble_eq_true rfl) (fun g hg => ?_)
  refine jr_lv (lv' := [(0, .ref (E.1 35)), (1, .int k)]) [0, 1] rfl ?_
  refine jr_iload_n hg 1 rfl rfl dX8_sky_0 ?_
  refine jr_i2l hg _ dX8_sky_1 rfl ?_
  refine jr_lconst hg (lN 0) dX8_sky_2 (by decide) ?_
  refine jr_ldc2 hg wm_8_0 dX8_sky_3 ?_
  refine jr_topl (show (2 : Int64) = lN 2 by decide) ?_
  refine jr_cS3v hg lk_X8_100 (by decide) (by decide) (Nat.le_of_ble_eq_true rfl) dX8_sky_6 (c_X8_in0 hI k rfl (by decide)) ?_
  refine jr_if_eqZ (tgt := 21) hg dX8_sky_9 (by decide) (fun h9 => ?_) (fun h9 => ?_)
  · refine jr_sipush hg (-1002) dX8_sky_21 (by decide) ?_
    exact jr_iret hg rfl dX8_sky_24 (zq_okR (if_neg (by rw [h9]; simp)) rall)
  · obtain ⟨k1, hk, rfl⟩ := zin_of (by decide) h9
    refine jr_aload_n hg 0 rfl rfl dX8_sky_12 ?_
    refine gf_X8_57 hg (hI 35 (by decide)) dX8_sky_13 ?_
    refine jr_iload_n hg 1 rfl rfl dX8_sky_16 ?_
    refine jr_ialdN hg (n := 3) (by omega) (by decide) (hI 50 (by decide)) (ac_50 _ _) dX8_sky_17 ?_
    refine jr_top (Ro.2.2.1 _ (by omega)) ?_
    refine jr_goto (tgt := 24) hg dX8_sky_18 (by decide) ?_
    exact jr_iret hg rfl dX8_sky_24 (zq_okR (by rw [zq_sky, if_pos h9, zn_nI (by omega)]) rall)

set_option maxRecDepth 100000 in
theorem c_X8_far {E : mm_E} (hI : mm_FR E) {M : mm_M} {s : zS} (hR : zR s M) (hW : zW s) (x k : Int32) : mm_Cal E mX8_far [.ref (E.1 35), .int x, .int k] M (fun v M' => v = some (.int (zq_far s x k).1) ∧ zR (zq_far s x k).2 M') := by
  obtain ⟨Rp, Rl, Rk, Rw, Rt, Rd, Ro, Rq⟩ := hR
  obtain ⟨Wp, Wl, Wk, Ww, Wt, Wd, Wo, Wq⟩ := hW
  have hnp := Wp.1
  have hnl := Wl.1
  have hnk := Wk.1
  have rall : zR s M := ⟨Rp, Rl, Rk, Rw, Rt, Rd, Ro, Rq⟩
  have wall : zW s := ⟨Wp, Wl, Wk, Ww, Wt, Wd, Wo, Wq⟩
  have hfs : ∀ k, k < 3 → z_fs s k (s 0 0) ≤ 24000 := fun k hk => by have := z_fs_le Wo (k := k) hk (n := s 0 0) hnp; omega
  refine jr_entry RX8 (by decide +kernel) (Nat.le_of_ble_eq_true rfl) (fun g hg => ?_)
  refine jr_lv (lv' := [(0, .ref (E.1 35)), (1, .int x), (2, .int k)]) [0, 1, 2] rfl ?_
  refine jr_iload_n hg 1 rfl rfl dX8_far_0 ?_
  refine jr_i2l hg _ dX8_far_1 rfl ?_
  refine jr_lconst hg (lN 0) dX8_far_2 (by decide) ?_
  refine jr_ldc2 hg wm_38_12 dX8_far_3 ?_
  refine jr_topl (show (100 : Int64) = lN 100 by decide) ?_
  refine jr_cS3v hg lk_X8_100 (by decide) (by decide) (Nat.le_of_ble_eq_true rfl) dX8_far_6 (c_X8_in0 hI x rfl (by decide)) ?_
  refine jr_if_eqZ (tgt := 24) hg dX8_far_9 (by decide) (fun h9 => ?_) (fun h9 => ?_)
  · refine jr_sipush hg (-1002) dX8_far_24 (by decide) ?_
    exact jr_iret hg rfl dX8_far_27 (zq_okR (if_neg (by rw [h9]; simp)) rall)
  · refine jr_iload_n hg 2 rfl rfl dX8_far_12 ?_
    refine jr_i2l hg _ dX8_far_13 rfl ?_
    refine jr_lconst hg (lN 0) dX8_far_14 (by decide) ?_
    refine jr_ldc2 hg wm_8_0 dX8_far_15 ?_
    refine jr_topl (show (2 : Int64) = lN 2 by decide) ?_
    refine jr_cS3v hg lk_X8_100 (by decide) (by decide) (Nat.le_of_ble_eq_true rfl) dX8_far_18 (c_X8_in0 hI k rfl (by decide)) ?_
    refine jr_if_neZ (tgt := 28) hg dX8_far_21 (by decide) (fun h21 => ?_) (fun h21 => ?_)
    · obtain ⟨x1, hx, rfl⟩ := zin_of (by decide) h9
      obtain ⟨k1, hk, rfl⟩ := zin_of (by decide) h21
      have hf0 := hfs 0 (by decide)
      have hf1 := hfs k1 hk
      have hm : z_fs s 0 (s 0 0) * x1 ≤ z_fs s 0 (s 0 0) * 100 := Nat.mul_le_mul_left _ (by omega)
      refine jr_iconst hg (nI 0) dX8_far_28 (by decide) ?_
      refine jr_istore_n hg dX8_far_29 rfl (by decide) rfl ?_
      refine jr_iconst hg (nI 0) dX8_far_30 (by decide) ?_
      refine jr_istore hg dX8_far_31 (by decide) rfl ?_
      refine jr_iconst hg (nI 0) dX8_far_33 (by decide) ?_
      refine jr_istore hg dX8_far_34 (by decide) rfl ?_
      have lp36 : ∀ p : Nat, p ≤ s 0 0 →  mm_J g E mX8_far (fun v M' => v = some (.int (zq_far s (nI x1) (nI k1)).1) ∧ zR (zq_far s (nI x1) (nI k1)).2 M') 36 [(0, .ref (E.1 35)), (1, .int (nI x1)), (2, .int (nI k1)), (3, .int (nI ((z_fs s k1 p)))), (4, .int (nI ((z_fs s 0 p)))), (5, .int (nI p))] [] (M) := by
        refine jr_up (S := fun p =>  mm_J g E mX8_far (fun v M' => v = some (.int (zq_far s (nI x1) (nI k1)).1) ∧ zR (zq_far s (nI x1) (nI k1)).2 M') 36 [(0, .ref (E.1 35)), (1, .int (nI x1)), (2, .int (nI k1)), (3, .int (nI ((z_fs s k1 p)))), (4, .int (nI ((z_fs s 0 p)))), (5, .int (nI p))] [] (M)) (n := s 0 0) ?_ ?_
        · show mm_J g E mX8_far (fun v M' => v = some (.int (zq_far s (nI x1) (nI k1)).1) ∧ zR (zq_far s (nI x1) (nI k1)).2 M') 36 [(0, .ref (E.1 35)), (1, .int (nI x1)), (2, .int (nI k1)), (3, .int (nI ((z_fs s k1 (s 0 0))))), (4, .int (nI ((z_fs s 0 (s 0 0))))), (5, .int (nI (s 0 0)))] [] (M)
          refine jr_iload hg 5 rfl dX8_far_36 ?_
          refine jr_aload_n hg 0 rfl rfl dX8_far_38 ?_
          refine gf_X8_154 hg (hI 35 (by decide)) dX8_far_39 ?_
          refine jr_top (Rp.1) ?_
          refine jr_icmp_geN (tgt := 95) hg dX8_far_42 (by decide) (by omega) (by omega) (fun h42 => ?_) (fun h => by omega)
          refine jr_iload hg 4 rfl dX8_far_95 ?_
          refine jr_iload_n hg 1 rfl rfl dX8_far_97 ?_
          refine jr_imulN hg dX8_far_98 ?_
          refine jr_sipush hg (nI 200) dX8_far_99 (by decide) ?_
          refine jr_idivN hg dX8_far_102 (by omega) (by decide) (by decide) ?_
          refine jr_istore hg dX8_far_103 (by decide) rfl ?_
          refine jr_iload_n hg 3 rfl rfl dX8_far_105 ?_
          refine jr_if_neN (tgt := 118) hg dX8_far_106 (by decide) (by omega) (fun h106 => ?_) (fun h106 => ?_)
          · refine jr_iload_n hg 4 rfl rfl dX8_far_118 ?_
            refine jr_iload hg 0 rfl dX8_far_119 ?_
            refine jr_iaddN hg dX8_far_121 ?_
            exact jr_iret hg rfl dX8_far_122 (zq_okR (by rw [zq_far, if_pos (by rw [h9, h21]; rfl), zn_nI (by omega), zn_nI (by omega), z_far, if_neg (by omega), Nat.div_div_eq_div_mul]) rall)
          · have hk0 : z_fs s k1 (s 0 0) = z_fs s 0 (s 0 0) := by rw [h106]
            refine jr_iload_n hg 4 rfl rfl dX8_far_109 ?_
            refine jr_iconst hg (nI 2) dX8_far_110 (by decide) ?_
            refine jr_iload hg 0 rfl dX8_far_111 ?_
            refine jr_imulN hg dX8_far_113 ?_
            refine jr_isubN hg dX8_far_114 (by omega) ?_
            refine jr_goto (tgt := 122) hg dX8_far_115 (by decide) ?_
            exact jr_iret hg rfl dX8_far_122 (zq_okR (by rw [zq_far, if_pos (by rw [h9, h21]; rfl), zn_nI (by omega), zn_nI (by omega), z_far, if_pos h106, Nat.div_div_eq_div_mul, hk0]) rall)
        · intro p hp ih 
          show mm_J g E mX8_far (fun v M' => v = some (.int (zq_far s (nI x1) (nI k1)).1) ∧ zR (zq_far s (nI x1) (nI k1)).2 M') 36 [(0, .ref (E.1 35)), (1, .int (nI x1)), (2, .int (nI k1)), (3, .int (nI ((z_fs s k1 p)))), (4, .int (nI ((z_fs s 0 p)))), (5, .int (nI p))] [] (M)
          refine jr_iload hg 5 rfl dX8_far_36 ?_
          refine jr_aload_n hg 0 rfl rfl dX8_far_38 ?_
          refine gf_X8_154 hg (hI 35 (by decide)) dX8_far_39 ?_
          refine jr_top (Rp.1) ?_
          refine jr_icmp_geN (tgt := 95) hg dX8_far_42 (by decide) (by omega) (by omega) (fun h => by omega) (fun h42 => ?_)
          refine jr_iload_n hg 3 rfl rfl dX8_far_45 ?_
          refine jr_aload_n hg 0 rfl rfl dX8_far_46 ?_
          refine gf_X8_26 hg (hI 35 (by decide)) dX8_far_47 ?_
          refine jr_iload hg 5 rfl dX8_far_50 ?_
          refine jr_ialdN hg (n := 24) (by omega) (by decide) (hI 40 (by decide)) (ac_40 _ _) dX8_far_52 ?_
          refine jr_top ((Rp.2 _ (by omega)).2.1) ?_
          refine jr_aload_n hg 0 rfl rfl dX8_far_53 ?_
          refine gf_X8_51 hg (hI 35 (by decide)) dX8_far_54 ?_
          refine jr_iconst hg (nI 3) dX8_far_57 (by decide) ?_
          refine jr_iload hg 5 rfl dX8_far_58 ?_
          refine jr_imulN hg dX8_far_60 ?_
          refine jr_iload_n hg 2 rfl rfl dX8_far_61 ?_
          refine jr_iaddN hg dX8_far_62 ?_
          refine jr_ialdN hg (n := 72) (by omega) (by decide) (hI 48 (by decide)) (ac_48 _ _) dX8_far_63 ?_
          refine jr_top (Ro.1 _ (by omega)) ?_
          refine jr_imulN hg dX8_far_64 ?_
          refine jr_iaddN hg dX8_far_65 ?_
          refine jr_istore_n hg dX8_far_66 rfl (by decide) rfl ?_
          refine jr_iload hg 4 rfl dX8_far_67 ?_
          refine jr_aload_n hg 1 rfl rfl dX8_far_69 ?_
          refine gf_X8_26 hg (hI 35 (by decide)) dX8_far_70 ?_
          refine jr_iload hg 5 rfl dX8_far_73 ?_
          refine jr_ialdN hg (n := 24) (by omega) (by decide) (hI 40 (by decide)) (ac_40 _ _) dX8_far_75 ?_
          refine jr_top ((Rp.2 _ (by omega)).2.1) ?_
          refine jr_aload_n hg 1 rfl rfl dX8_far_76 ?_
          refine gf_X8_51 hg (hI 35 (by decide)) dX8_far_77 ?_
          refine jr_iconst hg (nI 3) dX8_far_80 (by decide) ?_
          refine jr_iload hg 5 rfl dX8_far_81 ?_
          refine jr_imulN hg dX8_far_83 ?_
          refine jr_ialdN hg (n := 72) (by omega) (by decide) (hI 48 (by decide)) (ac_48 _ _) dX8_far_84 ?_
          refine jr_top (Ro.1 _ (by omega)) ?_
          refine jr_imulN hg dX8_far_85 ?_
          refine jr_iaddN hg dX8_far_86 ?_
          refine jr_istore hg dX8_far_87 (by decide) rfl ?_
          refine jr_iinc hg 5 rfl (nI (_ + 1)) (nI_1 _) dX8_far_89 (by decide) rfl ?_
          refine jr_goto (tgt := 36) hg dX8_far_92 (by decide) ?_
          have e1 := z_fs_s (s := s) (k := k1) (p := p) (Wp.2 p hp).2.1
          have e2 := z_fs_s (s := s) (k := 0) (p := p) (Wp.2 p hp).2.1
          rw [e1, e2] at ih
          exact jr_lv [3, 4, 5, 2, 1, 0] rfl ih
      exact jr_lv [3, 4, 5, 2, 1, 0] rfl (lp36 0 (by omega))
    · refine jr_sipush hg (-1002) dX8_far_24 (by decide) ?_
      exact jr_iret hg rfl dX8_far_27 (zq_okR (if_neg (by rw [h9, h21]; simp)) rall)

set_option maxRecDepth 100000 in
theorem c_X8_evening {E : mm_E} (hI : mm_FR E) {M : mm_M} {s : zS} (hR : zR s M) (hW : zW s) (S n r : Int32) : mm_Cal E mX8_evening [.ref (E.1 35), .int S, .int n, .int r] M (fun v M' => v = some (.int (zq_evening s S n r).1) ∧ zR (zq_evening s S n r).2 M') := by
  obtain ⟨Rp, Rl, Rk, Rw, Rt, Rd, Ro, Rq⟩ := hR
  obtain ⟨Wp, Wl, Wk, Ww, Wt, Wd, Wo, Wq⟩ := hW
  have hnp := Wp.1
  have hnl := Wl.1
  have hnk := Wk.1
  have rall : zR s M := ⟨Rp, Rl, Rk, Rw, Rt, Rd, Ro, Rq⟩
  have wall : zW s := ⟨Wp, Wl, Wk, Ww, Wt, Wd, Wo, Wq⟩
  have hp8 := zpow8 hnl
  refine jr_entry RX8 (by decide +kernel) (Nat.le_of_ble_eq_true rfl) (fun g hg => ?_)
  refine jr_lv (lv' := [(0, .ref (E.1 35)), (1, .int S), (2, .int n), (3, .int r)]) [0, 1, 2, 3] rfl ?_
  refine jr_iload_n hg 1 rfl rfl dX8_evening_0 ?_
  refine jr_i2l hg _ dX8_evening_1 rfl ?_
  refine jr_lconst hg (lN 0) dX8_evening_2 (by decide) ?_
  refine jr_iconst hg (nI 1) dX8_evening_3 (by decide) ?_
  refine jr_aload_n hg 0 rfl rfl dX8_evening_4 ?_
  refine gf_X8_165 hg (hI 35 (by decide)) dX8_evening_5 ?_
  refine jr_top (Rl.1) ?_
  refine jr_ishl hg dX8_evening_8 ?_
  refine jr_top (nI_shl1 (by omega)) ?_
  refine jr_iconst hg (nI 1) dX8_evening_9 (by decide) ?_
  refine jr_isub hg dX8_evening_10 ?_
  refine jr_i2l hg _ dX8_evening_11 rfl ?_
  refine jr_cS3v hg lk_X8_100 (by decide) (by decide) (Nat.le_of_ble_eq_true rfl) dX8_evening_12 (c_X8_inM hI S rfl (by omega)) ?_
  refine jr_if_neZ (tgt := 22) hg dX8_evening_15 (by decide) (fun h15 => ?_) (fun h15 => ?_)
  · refine jr_iload_n hg 2 rfl rfl dX8_evening_22 ?_
    refine jr_i2l hg _ dX8_evening_23 rfl ?_
    refine jr_lconst hg (lN 1) dX8_evening_24 (by decide) ?_
    refine jr_ldc2 hg wm_32_2 dX8_evening_25 ?_
    refine jr_topl (show (20 : Int64) = lN 20 by decide) ?_
    refine jr_cS3v hg lk_X8_100 (by decide) (by decide) (Nat.le_of_ble_eq_true rfl) dX8_evening_28 (c_X8_inW hI n (lo := 1) (hi := 20) rfl (by decide) (by decide)) ?_
    refine jr_if_eqZ (tgt := 46) hg dX8_evening_31 (by decide) (fun h31 => ?_) (fun h31 => ?_)
    · refine jr_sipush hg (-1002) dX8_evening_46 (by decide) ?_
      exact jr_iret hg rfl dX8_evening_49 (zq_okR (by rw [zq_evening, if_pos h15, if_neg (by rw [h31]; simp)]) rall)
    · refine jr_iload_n hg 3 rfl rfl dX8_evening_34 ?_
      refine jr_i2l hg _ dX8_evening_35 rfl ?_
      refine jr_lconst hg (lN 0) dX8_evening_36 (by decide) ?_
      refine jr_ldc2 hg wm_8_0 dX8_evening_37 ?_
      refine jr_topl (show (2 : Int64) = lN 2 by decide) ?_
      refine jr_cS3v hg lk_X8_100 (by decide) (by decide) (Nat.le_of_ble_eq_true rfl) dX8_evening_40 (c_X8_in0 hI r rfl (by decide)) ?_
      refine jr_if_neZ (tgt := 50) hg dX8_evening_43 (by decide) (fun h43 => ?_) (fun h43 => ?_)
      · obtain ⟨S1, hS, rfl⟩ := zin_of (by omega) h15
        obtain ⟨n1, hn1, hn, rfl⟩ := zwi_of (by decide) h31
        obtain ⟨r1, hr, rfl⟩ := zin_of (by decide) h43
        refine jr_aload_n hg 0 rfl rfl dX8_evening_50 ?_
        refine gf_X8_174 hg (hI 35 (by decide)) dX8_evening_51 ?_
        refine jr_top (Rk.1) ?_
        refine jr_istore hg dX8_evening_54 (by decide) rfl ?_
        refine jr_iconst hg (nI 0) dX8_evening_56 (by decide) ?_
        refine jr_istore hg dX8_evening_57 (by decide) rfl ?_
        have lp59 : ∀ j : Nat, j ≤ n1 → ∀ M1, zR (z_ev s S1 r1 j) M1 → mm_J g E mX8_evening (fun v M' => v = some (.int (zq_evening s (nI S1) (nI n1) (nI r1)).1) ∧ zR (zq_evening s (nI S1) (nI n1) (nI r1)).2 M') 59 [(0, .ref (E.1 35)), (1, .int (nI S1)), (2, .int (nI n1)), (3, .int (nI r1)), (4, .int (nI ((s 0 2)))), (5, .int (nI j))] [] (M1) := by
          refine jr_up (S := fun j => ∀ M1, zR (z_ev s S1 r1 j) M1 → mm_J g E mX8_evening (fun v M' => v = some (.int (zq_evening s (nI S1) (nI n1) (nI r1)).1) ∧ zR (zq_evening s (nI S1) (nI n1) (nI r1)).2 M') 59 [(0, .ref (E.1 35)), (1, .int (nI S1)), (2, .int (nI n1)), (3, .int (nI r1)), (4, .int (nI ((s 0 2)))), (5, .int (nI j))] [] (M1)) (n := n1) ?_ ?_
          · intro M1 hX
            show mm_J g E mX8_evening (fun v M' => v = some (.int (zq_evening s (nI S1) (nI n1) (nI r1)).1) ∧ zR (zq_evening s (nI S1) (nI n1) (nI r1)).2 M') 59 [(0, .ref (E.1 35)), (1, .int (nI S1)), (2, .int (nI n1)), (3, .int (nI r1)), (4, .int (nI ((s 0 2)))), (5, .int (nI (n1)))] [] (M1)
            have hu := zW_ev wall S1 r1 n1
            have hk := (z_ev_keep s S1 r1 n1).2.2
            have hu2 := hu.2.2.1.1
            refine jr_iload hg 5 rfl dX8_evening_59 ?_
            refine jr_iload_n hg 2 rfl rfl dX8_evening_61 ?_
            refine jr_icmp_geN (tgt := 150) hg dX8_evening_62 (by decide) (by omega) (by omega) (fun h62 => ?_) (fun h => by omega)
            refine jr_aload_n hg 0 rfl rfl dX8_evening_150 ?_
            refine gf_X8_174 hg (hI 35 (by decide)) dX8_evening_151 ?_
            refine jr_top (hX.2.2.1.1) ?_
            refine jr_iload hg 4 rfl dX8_evening_154 ?_
            refine jr_isubN hg dX8_evening_156 hk ?_
            exact jr_iret hg rfl dX8_evening_157 (zq_okR (by rw [zq_evening, if_pos h15, if_pos (by rw [h31, h43]; rfl), zn_nI (by omega), zn_nI (by omega), zn_nI (by omega)]) hX)
          · intro j hj ih M1 hX
            show mm_J g E mX8_evening (fun v M' => v = some (.int (zq_evening s (nI S1) (nI n1) (nI r1)).1) ∧ zR (zq_evening s (nI S1) (nI n1) (nI r1)).2 M') 59 [(0, .ref (E.1 35)), (1, .int (nI S1)), (2, .int (nI n1)), (3, .int (nI r1)), (4, .int (nI ((s 0 2)))), (5, .int (nI j))] [] (M1)
            have hk1 := (z_ev_keep s S1 r1 j).2.1
            refine jr_iload hg 5 rfl dX8_evening_59 ?_
            refine jr_iload_n hg 2 rfl rfl dX8_evening_61 ?_
            refine jr_icmp_geN (tgt := 150) hg dX8_evening_62 (by decide) (by omega) (by omega) (fun h => by omega) (fun h62 => ?_)
            refine jr_iconst hg (nI 0) dX8_evening_65 (by decide) ?_
            refine jr_istore hg dX8_evening_66 (by decide) rfl ?_
            have lp68 : ∀ l : Nat, l ≤ s 0 1 → ∀ M2, zR (z_tt (z_ev s S1 r1 j) S1 r1 l) M2 → mm_J g E mX8_evening (fun v M' => v = some (.int (zq_evening s (nI S1) (nI n1) (nI r1)).1) ∧ zR (zq_evening s (nI S1) (nI n1) (nI r1)).2 M') 68 [(0, .ref (E.1 35)), (1, .int (nI S1)), (2, .int (nI n1)), (3, .int (nI r1)), (4, .int (nI ((s 0 2)))), (5, .int (nI j)), (6, .int (nI l))] [] (M2) := by
              refine jr_up (S := fun l => ∀ M2, zR (z_tt (z_ev s S1 r1 j) S1 r1 l) M2 → mm_J g E mX8_evening (fun v M' => v = some (.int (zq_evening s (nI S1) (nI n1) (nI r1)).1) ∧ zR (zq_evening s (nI S1) (nI n1) (nI r1)).2 M') 68 [(0, .ref (E.1 35)), (1, .int (nI S1)), (2, .int (nI n1)), (3, .int (nI r1)), (4, .int (nI ((s 0 2)))), (5, .int (nI j)), (6, .int (nI l))] [] (M2)) (n := s 0 1) ?_ ?_
              · intro M2 hX2
                show mm_J g E mX8_evening (fun v M' => v = some (.int (zq_evening s (nI S1) (nI n1) (nI r1)).1) ∧ zR (zq_evening s (nI S1) (nI n1) (nI r1)).2 M') 68 [(0, .ref (E.1 35)), (1, .int (nI S1)), (2, .int (nI n1)), (3, .int (nI r1)), (4, .int (nI ((s 0 2)))), (5, .int (nI j)), (6, .int (nI (s 0 1)))] [] (M2)
                have hkx := (z_tt_keep (z_ev s S1 r1 j) S1 r1 (s 0 1)).2.1.trans (z_ev_keep s S1 r1 j).2.1
                have Rl2 : M2.1 35 15 = nI (s 0 1) := by rw [← hkx]; exact hX2.2.1.1
                refine jr_iload hg 6 rfl dX8_evening_68 ?_
                refine jr_aload_n hg 0 rfl rfl dX8_evening_70 ?_
                refine gf_X8_165 hg (hI 35 (by decide)) dX8_evening_71 ?_
                refine jr_top (Rl2) ?_
                refine jr_icmp_geN (tgt := 144) hg dX8_evening_74 (by decide) (by omega) (by omega) (fun h74 => ?_) (fun h => by omega)
                refine jr_iinc hg 5 rfl (nI (_ + 1)) (nI_1 _) dX8_evening_144 (by decide) rfl ?_
                refine jr_goto (tgt := 59) hg dX8_evening_147 (by decide) ?_
                exact jr_lv [1, 2, 3, 4, 5, 0] rfl (ih M2 (by rw [z_ev, hk1]; exact hX2))
              · intro l hl ih2 M2 hX2
                show mm_J g E mX8_evening (fun v M' => v = some (.int (zq_evening s (nI S1) (nI n1) (nI r1)).1) ∧ zR (zq_evening s (nI S1) (nI n1) (nI r1)).2 M') 68 [(0, .ref (E.1 35)), (1, .int (nI S1)), (2, .int (nI n1)), (3, .int (nI r1)), (4, .int (nI ((s 0 2)))), (5, .int (nI j)), (6, .int (nI l))] [] (M2)
                have hu := zW_tt (zW_ev wall S1 r1 j) S1 r1 l (by omega)
                have hk0 : (z_tt (z_ev s S1 r1 j) S1 r1 l) 0 0 = s 0 0 := (z_tt_keep (z_ev s S1 r1 j) S1 r1 l).1.trans (z_ev_keep s S1 r1 j).1
                have hk2 : (z_tt (z_ev s S1 r1 j) S1 r1 l) 0 1 = s 0 1 := (z_tt_keep (z_ev s S1 r1 j) S1 r1 l).2.1.trans (z_ev_keep s S1 r1 j).2.1
                have hu2 := hu.2.2.1.1
                have Rl2 : M2.1 35 15 = nI (s 0 1) := by rw [← hk2]; exact hX2.2.1.1
                have Rk2 : M2.1 35 17 = nI ((z_tt (z_ev s S1 r1 j) S1 r1 l) 0 2) := hX2.2.2.1.1
                refine jr_iload hg 6 rfl dX8_evening_68 ?_
                refine jr_aload_n hg 0 rfl rfl dX8_evening_70 ?_
                refine gf_X8_165 hg (hI 35 (by decide)) dX8_evening_71 ?_
                refine jr_top (Rl2) ?_
                refine jr_icmp_geN (tgt := 144) hg dX8_evening_74 (by decide) (by omega) (by omega) (fun h => by omega) (fun h74 => ?_)
                refine jr_aload_n hg 0 rfl rfl dX8_evening_77 ?_
                refine gf_X8_174 hg (hI 35 (by decide)) dX8_evening_78 ?_
                refine jr_top (Rk2) ?_
                refine jr_sipush hg (nI 200) dX8_evening_81 (by decide) ?_
                refine jr_icmp_geN (tgt := 144) hg dX8_evening_84 (by decide) (by omega) (by omega) (fun h84 => ?_) (fun h84 => ?_)
                · refine jr_iinc hg 5 rfl (nI (_ + 1)) (nI_1 _) dX8_evening_144 (by decide) rfl ?_
                  refine jr_goto (tgt := 59) hg dX8_evening_147 (by decide) ?_
                  exact jr_lv [1, 2, 3, 4, 5, 0] rfl (ih M2 (by rw [z_ev, hk1, z_tt_full _ _ _ h84 (s 0 1) (by omega)]; exact hX2))
                · refine jr_iload_n hg 1 rfl rfl dX8_evening_87 ?_
                  refine jr_iload hg 6 rfl dX8_evening_88 ?_
                  refine jr_ishr hg dX8_evening_90 ?_
                  refine jr_top (nI_shr (by omega) (by omega)) ?_
                  refine jr_iconst hg (nI 1) dX8_evening_91 (by decide) ?_
                  refine jr_iand hg dX8_evening_92 ?_
                  refine jr_top (nI_and1 (Nat.lt_of_le_of_lt (Nat.div_le_self _ _) (by omega))) ?_
                  refine jr_iconst hg (nI 1) dX8_evening_93 (by decide) ?_
                  refine jr_icmp_neN (tgt := 138) hg dX8_evening_94 (by decide) (by omega) (by omega) (fun h94 => ?_) (fun h94 => ?_)
                  · refine jr_iinc hg 6 rfl (nI (_ + 1)) (nI_1 _) dX8_evening_138 (by decide) rfl ?_
                    refine jr_goto (tgt := 68) hg dX8_evening_141 (by decide) ?_
                    have e : z_tt (z_ev s S1 r1 j) S1 r1 (l + 1) = (z_tt (z_ev s S1 r1 j) S1 r1 l) := by rw [z_tt, zbit, decide_eq_false h94]; rfl
                    exact jr_lv [1, 2, 3, 4, 5, 6, 0] rfl (ih2 M2 (by rw [e]; exact hX2))
                  · refine jr_aload_n hg 0 rfl rfl dX8_evening_97 ?_
                    refine jr_iload hg 6 rfl dX8_evening_98 ?_
                    refine jr_cV1v hg lk_X8_189 (hI 35 (by decide)) rfl rfl (by decide) (by decide) (Nat.le_of_ble_eq_true rfl) dX8_evening_100 (c_X8_isStaying hI hX2 hu (by omega)) ?_
                    refine jr_if_eqZ (tgt := 138) hg dX8_evening_103 (by decide) (fun h103 => ?_) (fun h103 => ?_)
                    · refine jr_iinc hg 6 rfl (nI (_ + 1)) (nI_1 _) dX8_evening_138 (by decide) rfl ?_
                      refine jr_goto (tgt := 68) hg dX8_evening_141 (by decide) ?_
                      have e : z_tt (z_ev s S1 r1 j) S1 r1 (l + 1) = (z_tt (z_ev s S1 r1 j) S1 r1 l) := by rw [z_tt, h103]; simp
                      exact jr_lv [1, 2, 3, 4, 5, 6, 0] rfl (ih2 M2 (by rw [e]; exact hX2))
                    · refine jr_aload_n hg 0 rfl rfl dX8_evening_106 ?_
                      refine jr_iload hg 6 rfl dX8_evening_107 ?_
                      refine jr_iload_n hg 3 rfl rfl dX8_evening_109 ?_
                      refine jr_cV2v hg lk_X8_244 (hI 35 (by decide)) rfl rfl (by decide) (by decide) (Nat.le_of_ble_eq_true rfl) dX8_evening_110 (c_X8_nextOf hI hX2 hu (by omega) (by omega)) ?_
                      refine jr_istore hg dX8_evening_113 (by decide) rfl ?_
                      refine jr_iload hg 0 rfl dX8_evening_115 ?_
                      refine jr_if_lt (tgt := 138) hg dX8_evening_117 (by decide) (fun h117 => ?_) (fun h117 => ?_)
                      · refine jr_iinc hg 7 rfl (nI (_ + 1)) (nI_1 _) dX8_evening_138 (by decide) rfl ?_
                        refine jr_goto (tgt := 68) hg dX8_evening_141 (by decide) ?_
                        have e : z_tt (z_ev s S1 r1 j) S1 r1 (l + 1) = (z_tt (z_ev s S1 r1 j) S1 r1 l) := by rw [z_tt, (zmv_sgn (by have := z_nx_le (z_tt (z_ev s S1 r1 j) S1 r1 l) l r1 ((z_tt (z_ev s S1 r1 j) S1 r1 l) 0 0); omega)).mp h117]; simp
                        exact jr_lv [2, 3, 4, 5, 6, 7, 0] rfl (ih2 M2 (by rw [e]; exact hX2))
                      · have hn0 : z_nx (z_tt (z_ev s S1 r1 j) S1 r1 l) l r1 ((z_tt (z_ev s S1 r1 j) S1 r1 l) 0 0) ≠ 0 := fun q => h117 ((zmv_sgn (by have := z_nx_le (z_tt (z_ev s S1 r1 j) S1 r1 l) l r1 ((z_tt (z_ev s S1 r1 j) S1 r1 l) 0 0); omega)).mpr q)
                        have hok := z_nx_ok hn0
                        have hlt : (z_tt (z_ev s S1 r1 j) S1 r1 l) 0 2 < 200 := h84
                        rw [show zmv (z_nx (z_tt (z_ev s S1 r1 j) S1 r1 l) l r1 ((z_tt (z_ev s S1 r1 j) S1 r1 l) 0 0)) = nI (z_nx (z_tt (z_ev s S1 r1 j) S1 r1 l) l r1 ((z_tt (z_ev s S1 r1 j) S1 r1 l) 0 0) - 1) by rw [zmv, if_neg hn0]]
                        refine jr_aload_n hg 1 rfl rfl dX8_evening_120 ?_
                        refine jr_iload hg 7 rfl dX8_evening_121 ?_
                        refine jr_iload hg 0 rfl dX8_evening_123 ?_
                        refine jr_aload_n hg 1 rfl rfl dX8_evening_125 ?_
                        refine jr_iload hg 7 rfl dX8_evening_126 ?_
                        refine jr_iload hg 0 rfl dX8_evening_128 ?_
                        refine jr_cV2v hg lk_X8_238 (hI 35 (by decide)) rfl rfl (by decide) (by decide) (Nat.le_of_ble_eq_true rfl) dX8_evening_130 (c_X8_saidOf hI hX2 hu (by omega) hok.2) ?_
                        have Rk := zR_k_s (d := (z_said (z_tt (z_ev s S1 r1 j) S1 r1 l) l (z_nx (z_tt (z_ev s S1 r1 j) S1 r1 l) l r1 ((z_tt (z_ev s S1 r1 j) S1 r1 l) 0 0) - 1) ((z_tt (z_ev s S1 r1 j) S1 r1 l) 0 3)).2) hX2.2.2.1
                        refine jr_cV3v hg lk_X8_225 (hI 35 (by decide)) rfl rfl (by decide) (by decide) (Nat.le_of_ble_eq_true rfl) dX8_evening_133 (c_X8_addLook hI Rk hlt) ?_
                        refine jr_istore hg dX8_evening_136 (by decide) rfl ?_
                        refine jr_iinc hg 8 rfl (nI (_ + 1)) (nI_1 _) dX8_evening_138 (by decide) rfl ?_
                        refine jr_goto (tgt := 68) hg dX8_evening_141 (by decide) ?_
                        have e : z_tt (z_ev s S1 r1 j) S1 r1 (l + 1) = zlook (z_tt (z_ev s S1 r1 j) S1 r1 l) l (z_nx (z_tt (z_ev s S1 r1 j) S1 r1 l) l r1 ((z_tt (z_ev s S1 r1 j) S1 r1 l) 0 0) - 1) := by rw [z_tt, zbit, decide_eq_true h94, h103, decide_eq_true hlt]; simp [hn0]
                        exact jr_lv [3, 4, 5, 6, 7, 8, 0] rfl (ih2 _ (by rw [e]; exact zR_look hX2 l (z_nx (z_tt (z_ev s S1 r1 j) S1 r1 l) l r1 ((z_tt (z_ev s S1 r1 j) S1 r1 l) 0 0) - 1)))
            exact jr_lv [1, 2, 3, 4, 5, 6, 0] rfl (lp68 0 (by omega) M1 hX)
        exact jr_lv [2, 3, 4, 5, 1, 0] rfl (lp59 0 (by omega) M rall)
      · refine jr_sipush hg (-1002) dX8_evening_46 (by decide) ?_
        exact jr_iret hg rfl dX8_evening_49 (zq_okR (by rw [zq_evening, if_pos h15, if_neg (by rw [h31, h43]; simp)]) rall)
  · refine jr_sipush hg (-1001) dX8_evening_18 (by decide) ?_
    exact jr_iret hg rfl dX8_evening_21 (zq_okR (if_neg (by rw [h15]; simp)) rall)
