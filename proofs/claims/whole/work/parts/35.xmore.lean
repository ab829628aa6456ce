theorem zmv_eq {x a : Nat} (hx : x < 2 ^ 31) (ha : a < 2 ^ 31) : zmv x = nI a ↔ x = a + 1 := by
  cases x with
  | zero => refine ⟨fun e => absurd e.symm (nI_ne_m1 ha), fun e => by omega⟩
  | succ x => rw [zmv_s, nI_eq (by omega) ha]; omega
theorem zmv_inj {x y : Nat} (hx : x < 2 ^ 31) (hy : y < 2 ^ 31) : zmv x = zmv y ↔ x = y := by
  cases y with
  | zero => exact zmv_m1 hx
  | succ y => rw [zmv_s, zmv_eq hx (by omega)]
theorem zsub_gt {a b : Nat} (ha : a < 2 ^ 30) (hb : b < 2 ^ 30) : 0 < nI a - nI b ↔ b < a := by
  rw [Int32.lt_iff_toInt_lt, pk_sub_toInt ha hb, Int32.toInt_zero]; omega
theorem zsub_0 {a b : Nat} (ha : a < 2 ^ 30) (hb : b < 2 ^ 30) : nI a - nI b = 0 ↔ a = b := by
  rw [← Int32.toInt_inj, pk_sub_toInt ha hb, Int32.toInt_zero]; omega
def z_fs (s : zS) (k : Nat) : Nat → Nat := zsum (fun p => if s 2 p = 1 then s 12 (3 * p + k) else 0)
def z_mp (s : zS) (l a b : Nat) : Nat → Bool := fun p => s 5 p != 0 && (z_an s l (s 5 p - 1) == a + 1 && z_an s l p == b + 1)
def z_sh (s : zS) (l m : Nat) : Nat → Bool := fun p => z_an s l p != 0 && z_an s m p != 0
def z_al (s : zS) (l m : Nat) : Nat → Bool := fun p => z_an s l p != 0 && z_an s l p == z_an s m p
def z_gt (s : zS) (p : Nat) : Nat → Bool := fun q => decide (zcnt (z_gr s p) (s 0 2) < zcnt (z_gr s q) (s 0 2) ∨ zcnt (z_gr s q) (s 0 2) = zcnt (z_gr s p) (s 0 2) ∧ q < p)
def z_su (s : zS) (p a : Nat) : Bool := decide (10 * s 10 7 ≤ s 12 (3 * p + a))
def z_gl (s : zS) (p a : Nat) : Nat → Bool := fun l => s 6 l == 4 && (z_an s l p == a + 1 && z_su s p a)
def z_ga (s : zS) (p a : Nat) : Bool := zfind (z_gl s p a) (s 0 1) != 0
def z_gv (s : zS) : Nat → Bool := fun p => z_ga s p 0 || (z_ga s p 1 || z_ga s p 2)
def z_go2 (s : zS) : Nat → Bool := fun k => s 6 (s 7 k) != 4 && z_gv s (s 8 k)
def z_wa (s : zS) (p : Nat) : Nat → Bool
  | 0 => false
  | a + 1 => z_wa s p a || (a != s 1 p && z_ga s p a)
def z_wg (s : zS) : Nat → Bool := fun p => z_wa s p 3

theorem zmax0 {a b : Nat} (ha : a < 2 ^ 30) (hb : b < 2 ^ 30) : (if nI 0 < nI a - nI b then nI a - nI b else nI 0) = nI (a - b) := by
  by_cases h : b < a
  · rw [if_pos (by rw [nI_0]; exact (zsub_gt ha hb).mpr h), pk_sub (by omega)]
  · rw [if_neg (by rw [nI_0]; exact fun q => h ((zsub_gt ha hb).mp q)), show a - b = 0 by omega]

set_option maxRecDepth 100000 in
theorem c_X7_eyeOf {E : mm_E} (hI : mm_FX E) {M : mm_M} {s : zS} (hR : zX s M) (hW : zW s) {l : Nat} (hl : l < s 0 1) {p : Nat} (hp : p < s 0 0) : mm_Cal E mX7_eyeOf [.ref (E.1 7), .int (nI l), .int (nI p)] M (ret1 (.int (nI (z_eye s l p))) M) := by
  obtain ⟨Rp, Rl, Rk, Rw, Rt, Rd, Ro, Rq⟩ := hR
  obtain ⟨Wp, Wl, Wk, Ww, Wt, Wd, Wo, Wq⟩ := hW
  have hnp := Wp.1
  have hnl := Wl.1
  have hnk := Wk.1
  have w0 := zW_w100 Ww 0 (by decide)
  have w1 := zW_w100 Ww 1 (by decide)
  have w3 := zW_w100 Ww 3 (by decide)
  have g2 := zcnt_le (z_by s l) (s 0 2)
  have f0 := (Wp.2 p hp).2.1
  have f1 := (Wp.2 p hp).2.2.1
  have f2 := Wl.2 l hl
  have f3 : s 10 3 * zcnt (z_by s l) (s 0 2) ≤ 100 * 200 := Nat.mul_le_mul w3 (by omega)
  refine jr_entry RX7 (by decide +kernel) (Nat.le_of_ble_eq_true rfl) (fun g hg => ?_)
  refine jr_lv (lv' := [(0, .ref (E.1 7)), (1, .int (nI l)), (2, .int (nI p))]) [0, 1, 2] rfl ?_
  refine jr_aload_n hg 0 rfl rfl dX7_eyeOf_0 ?_
  refine gf_X7_33 hg (hI 7 (by decide)) dX7_eyeOf_1 ?_
  refine jr_iload_n hg 1 rfl rfl dX7_eyeOf_4 ?_
  refine jr_cV1v hg lk_X7_261 (hI 2 (by decide)) rfl rfl (by decide) (by decide) (Nat.le_of_ble_eq_true rfl) dX7_eyeOf_5 (c_X2_sortOf hI Rl Wl (by omega)) ?_
  refine jr_istore_n hg dX7_eyeOf_8 rfl (by decide) rfl ?_
  refine jr_iload_n hg 0 rfl rfl dX7_eyeOf_9 ?_
  refine jr_iconst hg (nI 4) dX7_eyeOf_10 (by decide) ?_
  refine jr_icmp_neN (tgt := 34) hg dX7_eyeOf_11 (by decide) (by omega) (by omega) (fun h11 => ?_) (fun h11 => ?_)
  · refine jr_aload_n hg 1 rfl rfl dX7_eyeOf_34 ?_
    refine gf_X7_10 hg (hI 7 (by decide)) dX7_eyeOf_35 ?_
    refine jr_aload_n hg 1 rfl rfl dX7_eyeOf_38 ?_
    refine gf_X7_26 hg (hI 7 (by decide)) dX7_eyeOf_39 ?_
    refine jr_iload_n hg 3 rfl rfl dX7_eyeOf_42 ?_
    refine jr_cV1v hg lk_X7_83 (hI 4 (by decide)) rfl rfl (by decide) (by decide) (Nat.le_of_ble_eq_true rfl) dX7_eyeOf_43 (c_X4_farOf hI Rp Wp (by omega)) ?_
    refine jr_iconst hg (nI 1) dX7_eyeOf_46 (by decide) ?_
    refine jr_icmp_neN (tgt := 54) hg dX7_eyeOf_47 (by decide) (by omega) (by omega) (fun h47 => ?_) (fun h47 => ?_)
    · refine jr_iconst hg (nI 0) dX7_eyeOf_54 (by decide) ?_
      refine jr_cV1v hg lk_X7_102 (hI 1 (by decide)) rfl rfl (by decide) (by decide) (Nat.le_of_ble_eq_true rfl) dX7_eyeOf_55 (c_X1_valueOf hI Rw (by decide)) ?_
      refine jr_istore hg dX7_eyeOf_58 (by decide) rfl ?_
      refine jr_iload_n hg 1 rfl rfl dX7_eyeOf_60 ?_
      refine jr_iconst hg (nI 2) dX7_eyeOf_61 (by decide) ?_
      refine jr_icmp_neN (tgt := 90) hg dX7_eyeOf_62 (by decide) (by omega) (by omega) (fun h62 => ?_) (fun h62 => ?_)
      · refine jr_iload hg 0 rfl dX7_eyeOf_90 ?_
        exact jr_iret hg rfl dX7_eyeOf_92 (⟨by rw [z_eye, if_neg h11, if_neg h62, if_neg (by omega)], rfl⟩)
      · refine jr_iconst hg (nI 0) dX7_eyeOf_65 (by decide) ?_
        refine jr_iload hg 0 rfl dX7_eyeOf_66 ?_
        refine jr_aload_n hg 2 rfl rfl dX7_eyeOf_68 ?_
        refine gf_X7_10 hg (hI 7 (by decide)) dX7_eyeOf_69 ?_
        refine jr_iconst hg (nI 3) dX7_eyeOf_72 (by decide) ?_
        refine jr_cV1v hg lk_X7_102 (hI 1 (by decide)) rfl rfl (by decide) (by decide) (Nat.le_of_ble_eq_true rfl) dX7_eyeOf_73 (c_X1_valueOf hI Rw (by decide)) ?_
        refine jr_aload_n hg 2 rfl rfl dX7_eyeOf_76 ?_
        refine gf_X7_40 hg (hI 7 (by decide)) dX7_eyeOf_77 ?_
        refine jr_iload_n hg 3 rfl rfl dX7_eyeOf_80 ?_
        refine jr_cV1v hg lk_X7_276 (hI 3 (by decide)) rfl rfl (by decide) (by decide) (Nat.le_of_ble_eq_true rfl) dX7_eyeOf_81 (c_X3_howManyBy hI Rk Wk (by omega)) ?_
        refine jr_imulN hg dX7_eyeOf_84 ?_
        refine jr_isub hg dX7_eyeOf_85 ?_
        refine jr_max hg wm_28_2 (by decide) (Nat.le_of_ble_eq_true rfl) dX7_eyeOf_86 wm_20_11 wm_20_12 wm_20_13 ?_
        refine jr_top (zmax0 (by omega) (by omega)) ?_
        exact jr_iret hg rfl dX7_eyeOf_89 (⟨by rw [z_eye, if_neg h11, if_pos h62, if_neg (by omega)], rfl⟩)
    · refine jr_iconst hg (nI 1) dX7_eyeOf_50 (by decide) ?_
      refine jr_goto (tgt := 55) hg dX7_eyeOf_51 (by decide) ?_
      refine jr_cV1v hg lk_X7_102 (hI 1 (by decide)) rfl rfl (by decide) (by decide) (Nat.le_of_ble_eq_true rfl) dX7_eyeOf_55 (c_X1_valueOf hI Rw (by decide)) ?_
      refine jr_istore hg dX7_eyeOf_58 (by decide) rfl ?_
      refine jr_iload_n hg 1 rfl rfl dX7_eyeOf_60 ?_
      refine jr_iconst hg (nI 2) dX7_eyeOf_61 (by decide) ?_
      refine jr_icmp_neN (tgt := 90) hg dX7_eyeOf_62 (by decide) (by omega) (by omega) (fun h62 => ?_) (fun h62 => ?_)
      · refine jr_iload hg 0 rfl dX7_eyeOf_90 ?_
        exact jr_iret hg rfl dX7_eyeOf_92 (⟨by rw [z_eye, if_neg h11, if_neg h62, if_pos (by omega)], rfl⟩)
      · refine jr_iconst hg (nI 0) dX7_eyeOf_65 (by decide) ?_
        refine jr_iload hg 0 rfl dX7_eyeOf_66 ?_
        refine jr_aload_n hg 2 rfl rfl dX7_eyeOf_68 ?_
        refine gf_X7_10 hg (hI 7 (by decide)) dX7_eyeOf_69 ?_
        refine jr_iconst hg (nI 3) dX7_eyeOf_72 (by decide) ?_
        refine jr_cV1v hg lk_X7_102 (hI 1 (by decide)) rfl rfl (by decide) (by decide) (Nat.le_of_ble_eq_true rfl) dX7_eyeOf_73 (c_X1_valueOf hI Rw (by decide)) ?_
        refine jr_aload_n hg 2 rfl rfl dX7_eyeOf_76 ?_
        refine gf_X7_40 hg (hI 7 (by decide)) dX7_eyeOf_77 ?_
        refine jr_iload_n hg 3 rfl rfl dX7_eyeOf_80 ?_
        refine jr_cV1v hg lk_X7_276 (hI 3 (by decide)) rfl rfl (by decide) (by decide) (Nat.le_of_ble_eq_true rfl) dX7_eyeOf_81 (c_X3_howManyBy hI Rk Wk (by omega)) ?_
        refine jr_imulN hg dX7_eyeOf_84 ?_
        refine jr_isub hg dX7_eyeOf_85 ?_
        refine jr_max hg wm_28_2 (by decide) (Nat.le_of_ble_eq_true rfl) dX7_eyeOf_86 wm_20_11 wm_20_12 wm_20_13 ?_
        refine jr_top (zmax0 (by omega) (by omega)) ?_
        exact jr_iret hg rfl dX7_eyeOf_89 (⟨by rw [z_eye, if_neg h11, if_pos h62, if_pos (by omega)], rfl⟩)
  · refine jr_aload_n hg 1 rfl rfl dX7_eyeOf_14 ?_
    refine gf_X7_26 hg (hI 7 (by decide)) dX7_eyeOf_15 ?_
    refine jr_iload_n hg 3 rfl rfl dX7_eyeOf_18 ?_
    refine jr_cV1v hg lk_X7_86 (hI 4 (by decide)) rfl rfl (by decide) (by decide) (Nat.le_of_ble_eq_true rfl) dX7_eyeOf_19 (c_X4_depthOf hI Rp Wp (by omega)) ?_
    refine jr_iconst hg (nI 4) dX7_eyeOf_22 (by decide) ?_
    refine jr_icmp_gtN (tgt := 31) hg dX7_eyeOf_23 (by decide) (by omega) (by omega) (fun h23 => ?_) (fun h23 => ?_)
    · refine jr_bipush hg (nI 34) dX7_eyeOf_31 (by decide) ?_
      exact jr_iret hg rfl dX7_eyeOf_33 (⟨by rw [z_eye, if_pos h11, if_neg (by omega)], rfl⟩)
    · refine jr_bipush hg (nI 100) dX7_eyeOf_26 (by decide) ?_
      refine jr_goto (tgt := 33) hg dX7_eyeOf_28 (by decide) ?_
      exact jr_iret hg rfl dX7_eyeOf_33 (⟨by rw [z_eye, if_pos h11, if_pos (by omega)], rfl⟩)


set_option maxRecDepth 100000 in
theorem c_X7_seenByDraws {E : mm_E} (hI : mm_FX E) {M : mm_M} {s : zS} (hR : zX s M) (hW : zW s) {p : Nat} (hp : p < s 0 0) {e : Nat} (he : e ≤ 100) : mm_Cal E mX7_seenByDraws [.ref (E.1 7), .int (nI p), .int (nI e)] M (ret1 (.int (nI (z_seen s p e (s 0 3)).1)) (zseedM M (z_seen s p e (s 0 3)).2)) := by
  obtain ⟨Rp, Rl, Rk, Rw, Rt, Rd, Ro, Rq⟩ := hR
  obtain ⟨Wp, Wl, Wk, Ww, Wt, Wd, Wo, Wq⟩ := hW
  have hnp := Wp.1
  have hnl := Wl.1
  have hnk := Wk.1
  have hd0 : s 0 3 < 2 ^ 31 := Wd
  have hv := z_dv_lt (z_sd (s 0 3))
  have hv2 := z_dv_lt (z_sd (z_sd (s 0 3)))
  have hs1 := z_sd_lt (s 0 3)
  have f0 := (Wp.2 p hp).2.1
  refine jr_entry RX7 (by decide +kernel) (Nat.le_of_ble_eq_true rfl) (fun g hg => ?_)
  refine jr_lv (lv' := [(0, .ref (E.1 7)), (1, .int (nI p)), (2, .int (nI e))]) [0, 1, 2] rfl ?_
  refine jr_aload_n hg 0 rfl rfl dX7_seenByDraws_0 ?_
  refine gf_X7_19 hg (hI 7 (by decide)) dX7_seenByDraws_1 ?_
  refine jr_cV0v hg lk_X7_273 (hI 0 (by decide)) rfl rfl (by decide) (by decide) (Nat.le_of_ble_eq_true rfl) dX7_seenByDraws_4 (c_X0_draw hI Rd Wd) ?_
  have Rp : zX_p s (zseedM M (z_sd (s 0 3))) := Rp
  refine jr_iload_n hg 2 rfl rfl dX7_seenByDraws_7 ?_
  refine jr_icmp_geN (tgt := 20) hg dX7_seenByDraws_8 (by decide) (by omega) (by omega) (fun h8 => ?_) (fun h8 => ?_)
  · refine jr_aload_n hg 0 rfl rfl dX7_seenByDraws_20 ?_
    refine gf_X7_26 hg (hI 7 (by decide)) dX7_seenByDraws_21 ?_
    refine jr_iload_n hg 1 rfl rfl dX7_seenByDraws_24 ?_
    refine jr_cV1v hg lk_X7_83 (hI 4 (by decide)) rfl rfl (by decide) (by decide) (Nat.le_of_ble_eq_true rfl) dX7_seenByDraws_25 (c_X4_farOf hI Rp Wp (by omega)) ?_
    refine jr_iconst hg (nI 1) dX7_seenByDraws_28 (by decide) ?_
    refine jr_icmp_neN (tgt := 36) hg dX7_seenByDraws_29 (by decide) (by omega) (by omega) (fun h29 => ?_) (fun h29 => ?_)
    · refine jr_aload_n hg 0 rfl rfl dX7_seenByDraws_36 ?_
      refine gf_X7_19 hg (hI 7 (by decide)) dX7_seenByDraws_37 ?_
      refine jr_cV0v hg lk_X7_264 (hI 0 (by decide)) rfl rfl (by decide) (by decide) (Nat.le_of_ble_eq_true rfl) dX7_seenByDraws_40 (c_X0_drawKind (d := z_sd (s 0 3)) hI rfl hs1) ?_
      exact jr_iret hg rfl dX7_seenByDraws_43 (by rw [z_seen, if_neg (by omega), if_neg h29]; exact ⟨rfl, zseedM_2 _ _ _⟩)
    · refine jr_iconst hg (nI 0) dX7_seenByDraws_32 (by decide) ?_
      refine jr_goto (tgt := 43) hg dX7_seenByDraws_33 (by decide) ?_
      exact jr_iret hg rfl dX7_seenByDraws_43 (by rw [z_seen, if_neg (by omega), if_pos h29]; exact ⟨rfl, rfl⟩)
  · refine jr_aload_n hg 0 rfl rfl dX7_seenByDraws_11 ?_
    refine gf_X7_26 hg (hI 7 (by decide)) dX7_seenByDraws_12 ?_
    refine jr_iload_n hg 1 rfl rfl dX7_seenByDraws_15 ?_
    refine jr_cV1v hg lk_X7_77 (hI 4 (by decide)) rfl rfl (by decide) (by decide) (Nat.le_of_ble_eq_true rfl) dX7_seenByDraws_16 (c_X4_kindOf hI Rp Wp (by omega)) ?_
    exact jr_iret hg rfl dX7_seenByDraws_19 (by rw [z_seen, if_pos h8]; exact ⟨rfl, rfl⟩)

set_option maxRecDepth 100000 in
theorem c_X7_answerByDraws {E : mm_E} (hI : mm_FX E) {M : mm_M} {s : zS} (hR : zX s M) (hW : zW s) {l : Nat} (hl : l < s 0 1) {p : Nat} (hp : p < s 0 0) : mm_Cal E mX7_answerByDraws [.ref (E.1 7), .int (nI l), .int (nI p)] M (ret1 (.int (nI (z_said s l p (s 0 3)).1)) (zseedM M (z_said s l p (s 0 3)).2)) := by
  obtain ⟨Rp, Rl, Rk, Rw, Rt, Rd, Ro, Rq⟩ := hR
  obtain ⟨Wp, Wl, Wk, Ww, Wt, Wd, Wo, Wq⟩ := hW
  have hnp := Wp.1
  have hnl := Wl.1
  have hnk := Wk.1
  have hd0 : s 0 3 < 2 ^ 31 := Wd
  have he := z_eye_le Ww l p
  have hq := z_seen_le Wp (e := z_eye s l p) hp hd0
  have hv := z_dv_lt (z_sd (z_seen s p (z_eye s l p) (s 0 3)).2)
  have w2 := zW_w100 Ww 2 (by decide)
  have f2 := Wl.2 l hl
  have f1 := (Wp.2 p hp).2.2.1
  have hall : zX s M := ⟨Rp, Rl, Rk, Rw, Rt, Rd, Ro, Rq⟩
  have wall : zW s := ⟨Wp, Wl, Wk, Ww, Wt, Wd, Wo, Wq⟩
  refine jr_entry RX7 (by decide +kernel) (Nat.le_of_ble_eq_true rfl) (fun g hg => ?_)
  refine jr_lv (lv' := [(0, .ref (E.1 7)), (1, .int (nI l)), (2, .int (nI p))]) [0, 1, 2] rfl ?_
  refine jr_aload_n hg 0 rfl rfl dX7_answerByDraws_0 ?_
  refine gf_X7_33 hg (hI 7 (by decide)) dX7_answerByDraws_1 ?_
  refine jr_iload_n hg 1 rfl rfl dX7_answerByDraws_4 ?_
  refine jr_cV1v hg lk_X7_261 (hI 2 (by decide)) rfl rfl (by decide) (by decide) (Nat.le_of_ble_eq_true rfl) dX7_answerByDraws_5 (c_X2_sortOf hI Rl Wl (by omega)) ?_
  refine jr_istore_n hg dX7_answerByDraws_8 rfl (by decide) rfl ?_
  refine jr_iload_n hg 0 rfl rfl dX7_answerByDraws_9 ?_
  refine jr_iconst hg (nI 5) dX7_answerByDraws_10 (by decide) ?_
  refine jr_icmp_neN (tgt := 29) hg dX7_answerByDraws_11 (by decide) (by omega) (by omega) (fun h11 => ?_) (fun h11 => ?_)
  · refine jr_iload_n hg 0 rfl rfl dX7_answerByDraws_29 ?_
    refine jr_iconst hg (nI 3) dX7_answerByDraws_30 (by decide) ?_
    refine jr_icmp_neN (tgt := 42) hg dX7_answerByDraws_31 (by decide) (by omega) (by omega) (fun h31 => ?_) (fun h31 => ?_)
    · refine jr_aload_n hg 1 rfl rfl dX7_answerByDraws_42 ?_
      refine jr_iload_n hg 3 rfl rfl dX7_answerByDraws_43 ?_
      refine jr_aload_n hg 1 rfl rfl dX7_answerByDraws_44 ?_
      refine jr_iload_n hg 2 rfl rfl dX7_answerByDraws_45 ?_
      refine jr_iload_n hg 3 rfl rfl dX7_answerByDraws_46 ?_
      refine jr_cV2v hg lk_X7_267 (hI 7 (by decide)) rfl rfl (by decide) (by decide) (Nat.le_of_ble_eq_true rfl) dX7_answerByDraws_47 (c_X7_eyeOf hI hall wall hl hp) ?_
      refine jr_cV2v hg lk_X7_270 (hI 7 (by decide)) rfl rfl (by decide) (by decide) (Nat.le_of_ble_eq_true rfl) dX7_answerByDraws_50 (c_X7_seenByDraws hI hall wall hp he) ?_
      refine jr_istore hg dX7_answerByDraws_53 (by decide) rfl ?_
      refine jr_iload_n hg 1 rfl rfl dX7_answerByDraws_55 ?_
      refine jr_iconst hg (nI 1) dX7_answerByDraws_56 (by decide) ?_
      refine jr_icmp_neN (tgt := 86) hg dX7_answerByDraws_57 (by decide) (by omega) (by omega) (fun h57 => ?_) (fun h57 => ?_)
      · refine jr_iload hg 0 rfl dX7_answerByDraws_86 ?_
        exact jr_iret hg rfl dX7_answerByDraws_88 (by rw [z_said, if_neg (by omega), if_neg h31, if_neg (by omega)]; exact ⟨rfl, rfl⟩)
      · refine jr_iload hg 0 rfl dX7_answerByDraws_60 ?_
        refine jr_iconst hg (nI 2) dX7_answerByDraws_62 (by decide) ?_
        refine jr_icmp_neN (tgt := 86) hg dX7_answerByDraws_63 (by decide) (by omega) (by omega) (fun h63 => ?_) (fun h63 => ?_)
        · refine jr_iload hg 0 rfl dX7_answerByDraws_86 ?_
          exact jr_iret hg rfl dX7_answerByDraws_88 (by rw [z_said, if_neg (by omega), if_neg h31, if_neg (by omega)]; exact ⟨rfl, rfl⟩)
        · refine jr_aload_n hg 2 rfl rfl dX7_answerByDraws_66 ?_
          refine gf_X7_19 hg (hI 7 (by decide)) dX7_answerByDraws_67 ?_
          refine jr_cV0v hg lk_X7_273 (hI 0 (by decide)) rfl rfl (by decide) (by decide) (Nat.le_of_ble_eq_true rfl) dX7_answerByDraws_70 (c_X0_draw (d := (z_seen s p (z_eye s l p) (s 0 3)).2) hI rfl hq.2) ?_
          have Rw : zX_w s (zseedM (zseedM M (z_seen s p (z_eye s l p) (s 0 3)).2) (z_sd (z_seen s p (z_eye s l p) (s 0 3)).2)) := Rw
          refine jr_aload_n hg 2 rfl rfl dX7_answerByDraws_73 ?_
          refine gf_X7_10 hg (hI 7 (by decide)) dX7_answerByDraws_74 ?_
          refine jr_iconst hg (nI 2) dX7_answerByDraws_77 (by decide) ?_
          refine jr_cV1v hg lk_X7_102 (hI 1 (by decide)) rfl rfl (by decide) (by decide) (Nat.le_of_ble_eq_true rfl) dX7_answerByDraws_78 (c_X1_valueOf hI Rw (by decide)) ?_
          refine jr_icmp_geN (tgt := 86) hg dX7_answerByDraws_81 (by decide) (by omega) (by omega) (fun h81 => ?_) (fun h81 => ?_)
          · refine jr_iload hg 0 rfl dX7_answerByDraws_86 ?_
            exact jr_iret hg rfl dX7_answerByDraws_88 (by rw [z_said, if_neg (by omega), if_neg h31, if_pos ⟨h57, h63⟩, if_neg (by omega)]; exact ⟨congrArg (fun z => some (Value.int (nI z))) h63, zseedM_2 _ _ _⟩)
          · refine jr_iconst hg (nI 1) dX7_answerByDraws_84 (by decide) ?_
            exact jr_iret hg rfl dX7_answerByDraws_85 (by rw [z_said, if_neg (by omega), if_neg h31, if_pos ⟨h57, h63⟩, if_pos h81]; exact ⟨rfl, zseedM_2 _ _ _⟩)
    · refine jr_aload_n hg 1 rfl rfl dX7_answerByDraws_34 ?_
      refine gf_X7_19 hg (hI 7 (by decide)) dX7_answerByDraws_35 ?_
      refine jr_cV0v hg lk_X7_264 (hI 0 (by decide)) rfl rfl (by decide) (by decide) (Nat.le_of_ble_eq_true rfl) dX7_answerByDraws_38 (c_X0_drawKind hI Rd Wd) ?_
      exact jr_iret hg rfl dX7_answerByDraws_41 (by rw [z_said, if_neg (by omega), if_pos h31]; exact ⟨rfl, rfl⟩)
  · refine jr_aload_n hg 1 rfl rfl dX7_answerByDraws_14 ?_
    refine gf_X7_26 hg (hI 7 (by decide)) dX7_answerByDraws_15 ?_
    refine jr_iload_n hg 3 rfl rfl dX7_answerByDraws_18 ?_
    refine jr_cV1v hg lk_X7_86 (hI 4 (by decide)) rfl rfl (by decide) (by decide) (Nat.le_of_ble_eq_true rfl) dX7_answerByDraws_19 (c_X4_depthOf hI Rp Wp (by omega)) ?_
    refine jr_bipush hg (nI 8) dX7_answerByDraws_22 (by decide) ?_
    refine jr_icmp_ltN (tgt := 29) hg dX7_answerByDraws_24 (by decide) (by omega) (by omega) (fun h24 => ?_) (fun h24 => ?_)
    · refine jr_iload_n hg 0 rfl rfl dX7_answerByDraws_29 ?_
      refine jr_iconst hg (nI 3) dX7_answerByDraws_30 (by decide) ?_
      refine jr_icmp_neN (tgt := 42) hg dX7_answerByDraws_31 (by decide) (by omega) (by omega) (fun h31 => ?_) (fun h31 => ?_)
      · refine jr_aload_n hg 1 rfl rfl dX7_answerByDraws_42 ?_
        refine jr_iload_n hg 3 rfl rfl dX7_answerByDraws_43 ?_
        refine jr_aload_n hg 1 rfl rfl dX7_answerByDraws_44 ?_
        refine jr_iload_n hg 2 rfl rfl dX7_answerByDraws_45 ?_
        refine jr_iload_n hg 3 rfl rfl dX7_answerByDraws_46 ?_
        refine jr_cV2v hg lk_X7_267 (hI 7 (by decide)) rfl rfl (by decide) (by decide) (Nat.le_of_ble_eq_true rfl) dX7_answerByDraws_47 (c_X7_eyeOf hI hall wall hl hp) ?_
        refine jr_cV2v hg lk_X7_270 (hI 7 (by decide)) rfl rfl (by decide) (by decide) (Nat.le_of_ble_eq_true rfl) dX7_answerByDraws_50 (c_X7_seenByDraws hI hall wall hp he) ?_
        refine jr_istore hg dX7_answerByDraws_53 (by decide) rfl ?_
        refine jr_iload_n hg 1 rfl rfl dX7_answerByDraws_55 ?_
        refine jr_iconst hg (nI 1) dX7_answerByDraws_56 (by decide) ?_
        refine jr_icmp_neN (tgt := 86) hg dX7_answerByDraws_57 (by decide) (by omega) (by omega) (fun h57 => ?_) (fun h57 => ?_)
        · refine jr_iload hg 0 rfl dX7_answerByDraws_86 ?_
          exact jr_iret hg rfl dX7_answerByDraws_88 (by rw [z_said, if_neg (by omega), if_neg h31, if_neg (by omega)]; exact ⟨rfl, rfl⟩)
        · refine jr_iload hg 0 rfl dX7_answerByDraws_60 ?_
          refine jr_iconst hg (nI 2) dX7_answerByDraws_62 (by decide) ?_
          refine jr_icmp_neN (tgt := 86) hg dX7_answerByDraws_63 (by decide) (by omega) (by omega) (fun h63 => ?_) (fun h63 => ?_)
          · refine jr_iload hg 0 rfl dX7_answerByDraws_86 ?_
            exact jr_iret hg rfl dX7_answerByDraws_88 (by rw [z_said, if_neg (by omega), if_neg h31, if_neg (by omega)]; exact ⟨rfl, rfl⟩)
          · refine jr_aload_n hg 2 rfl rfl dX7_answerByDraws_66 ?_
            refine gf_X7_19 hg (hI 7 (by decide)) dX7_answerByDraws_67 ?_
            refine jr_cV0v hg lk_X7_273 (hI 0 (by decide)) rfl rfl (by decide) (by decide) (Nat.le_of_ble_eq_true rfl) dX7_answerByDraws_70 (c_X0_draw (d := (z_seen s p (z_eye s l p) (s 0 3)).2) hI rfl hq.2) ?_
            have Rw : zX_w s (zseedM (zseedM M (z_seen s p (z_eye s l p) (s 0 3)).2) (z_sd (z_seen s p (z_eye s l p) (s 0 3)).2)) := Rw
            refine jr_aload_n hg 2 rfl rfl dX7_answerByDraws_73 ?_
            refine gf_X7_10 hg (hI 7 (by decide)) dX7_answerByDraws_74 ?_
            refine jr_iconst hg (nI 2) dX7_answerByDraws_77 (by decide) ?_
            refine jr_cV1v hg lk_X7_102 (hI 1 (by decide)) rfl rfl (by decide) (by decide) (Nat.le_of_ble_eq_true rfl) dX7_answerByDraws_78 (c_X1_valueOf hI Rw (by decide)) ?_
            refine jr_icmp_geN (tgt := 86) hg dX7_answerByDraws_81 (by decide) (by omega) (by omega) (fun h81 => ?_) (fun h81 => ?_)
            · refine jr_iload hg 0 rfl dX7_answerByDraws_86 ?_
              exact jr_iret hg rfl dX7_answerByDraws_88 (by rw [z_said, if_neg (by omega), if_neg h31, if_pos ⟨h57, h63⟩, if_neg (by omega)]; exact ⟨congrArg (fun z => some (Value.int (nI z))) h63, zseedM_2 _ _ _⟩)
            · refine jr_iconst hg (nI 1) dX7_answerByDraws_84 (by decide) ?_
              exact jr_iret hg rfl dX7_answerByDraws_85 (by rw [z_said, if_neg (by omega), if_neg h31, if_pos ⟨h57, h63⟩, if_pos h81]; exact ⟨rfl, zseedM_2 _ _ _⟩)
      · refine jr_aload_n hg 1 rfl rfl dX7_answerByDraws_34 ?_
        refine gf_X7_19 hg (hI 7 (by decide)) dX7_answerByDraws_35 ?_
        refine jr_cV0v hg lk_X7_264 (hI 0 (by decide)) rfl rfl (by decide) (by decide) (Nat.le_of_ble_eq_true rfl) dX7_answerByDraws_38 (c_X0_drawKind hI Rd Wd) ?_
        exact jr_iret hg rfl dX7_answerByDraws_41 (by rw [z_said, if_neg (by omega), if_pos h31]; exact ⟨rfl, rfl⟩)
    · refine jr_iconst hg (nI 3) dX7_answerByDraws_27 (by decide) ?_
      exact jr_iret hg rfl dX7_answerByDraws_28 (by rw [z_said, if_pos ⟨h11, h24⟩]; exact ⟨rfl, (zseedM_self Rd).symm⟩)

set_option maxRecDepth 100000 in
theorem c_X7_farShare {E : mm_E} (hI : mm_FX E) {M : mm_M} {s : zS} (hR : zX s M) (hW : zW s) {k : Nat} (hk : k < 3) : mm_Cal E mX7_farShare [.ref (E.1 7), .int (nI k)] M (ret1 (.int (nI (z_fs s k (s 0 0)))) M) := by
  obtain ⟨Rp, Rl, Rk, Rw, Rt, Rd, Ro, Rq⟩ := hR
  obtain ⟨Wp, Wl, Wk, Ww, Wt, Wd, Wo, Wq⟩ := hW
  have hnp := Wp.1
  have hnl := Wl.1
  have hnk := Wk.1
  refine jr_entry RX7 (by decide +kernel) (Nat.le_of_ble_eq_true rfl) (fun g hg => ?_)
  refine jr_lv (lv' := [(0, .ref (E.1 7)), (1, .int (nI k))]) [0, 1] rfl ?_
  refine jr_iconst hg (nI 0) dX7_farShare_0 (by decide) ?_
  refine jr_istore_n hg dX7_farShare_1 rfl (by decide) rfl ?_
  refine jr_iconst hg (nI 0) dX7_farShare_2 (by decide) ?_
  refine jr_istore_n hg dX7_farShare_3 rfl (by decide) rfl ?_
  have lp4 : ∀ p : Nat, p ≤ s 0 0 →  mm_J g E mX7_farShare (ret1 (.int (nI (z_fs s k (s 0 0)))) M) 4 [(0, .ref (E.1 7)), (1, .int (nI k)), (2, .int (nI (z_fs s k p))), (3, .int (nI p))] [] (M) := by
    refine jr_up (S := fun p =>  mm_J g E mX7_farShare (ret1 (.int (nI (z_fs s k (s 0 0)))) M) 4 [(0, .ref (E.1 7)), (1, .int (nI k)), (2, .int (nI (z_fs s k p))), (3, .int (nI p))] [] (M)) (n := s 0 0) ?_ ?_
    · show mm_J g E mX7_farShare (ret1 (.int (nI (z_fs s k (s 0 0)))) M) 4 [(0, .ref (E.1 7)), (1, .int (nI k)), (2, .int (nI (z_fs s k (s 0 0)))), (3, .int (nI (s 0 0)))] [] (M)
      refine jr_iload_n hg 3 rfl rfl dX7_farShare_4 ?_
      refine jr_aload_n hg 0 rfl rfl dX7_farShare_5 ?_
      refine gf_X7_26 hg (hI 7 (by decide)) dX7_farShare_6 ?_
      refine jr_cV0v hg lk_X7_105 (hI 4 (by decide)) rfl rfl (by decide) (by decide) (Nat.le_of_ble_eq_true rfl) dX7_farShare_9 (c_X4_size hI Rp Wp) ?_
      refine jr_icmp_geN (tgt := 45) hg dX7_farShare_12 (by decide) (by omega) (by omega) (fun h12 => ?_) (fun h => by omega)
      refine jr_iload_n hg 2 rfl rfl dX7_farShare_45 ?_
      exact jr_iret hg rfl dX7_farShare_46 (⟨rfl, rfl⟩)
    · intro p hp ih 
      show mm_J g E mX7_farShare (ret1 (.int (nI (z_fs s k (s 0 0)))) M) 4 [(0, .ref (E.1 7)), (1, .int (nI k)), (2, .int (nI (z_fs s k p))), (3, .int (nI p))] [] (M)
      have f0 := (Wp.2 p hp).2.1
      refine jr_iload_n hg 3 rfl rfl dX7_farShare_4 ?_
      refine jr_aload_n hg 0 rfl rfl dX7_farShare_5 ?_
      refine gf_X7_26 hg (hI 7 (by decide)) dX7_farShare_6 ?_
      refine jr_cV0v hg lk_X7_105 (hI 4 (by decide)) rfl rfl (by decide) (by decide) (Nat.le_of_ble_eq_true rfl) dX7_farShare_9 (c_X4_size hI Rp Wp) ?_
      refine jr_icmp_geN (tgt := 45) hg dX7_farShare_12 (by decide) (by omega) (by omega) (fun h => by omega) (fun h12 => ?_)
      refine jr_aload_n hg 0 rfl rfl dX7_farShare_15 ?_
      refine gf_X7_26 hg (hI 7 (by decide)) dX7_farShare_16 ?_
      refine jr_iload_n hg 3 rfl rfl dX7_farShare_19 ?_
      refine jr_cV1v hg lk_X7_83 (hI 4 (by decide)) rfl rfl (by decide) (by decide) (Nat.le_of_ble_eq_true rfl) dX7_farShare_20 (c_X4_farOf hI Rp Wp (by omega)) ?_
      refine jr_iconst hg (nI 1) dX7_farShare_23 (by decide) ?_
      refine jr_icmp_neN (tgt := 39) hg dX7_farShare_24 (by decide) (by omega) (by omega) (fun h24 => ?_) (fun h24 => ?_)
      · refine jr_iinc hg 3 rfl (nI (_ + 1)) (nI_1 _) dX7_farShare_39 (by decide) rfl ?_
        refine jr_goto (tgt := 4) hg dX7_farShare_42 (by decide) ?_
        have e : z_fs s k (p + 1) = z_fs s k p + 0 := by rw [z_fs, zsum_s, if_neg h24]
        rw [e] at ih
        exact jr_lv [1, 2, 3, 0] rfl ih
      · refine jr_iload_n hg 2 rfl rfl dX7_farShare_27 ?_
        refine jr_aload_n hg 0 rfl rfl dX7_farShare_28 ?_
        refine gf_X7_47 hg (hI 7 (by decide)) dX7_farShare_29 ?_
        refine jr_iload_n hg 3 rfl rfl dX7_farShare_32 ?_
        refine jr_iload_n hg 1 rfl rfl dX7_farShare_33 ?_
        refine jr_cV2v hg lk_X7_196 (hI 6 (by decide)) rfl rfl (by decide) (by decide) (Nat.le_of_ble_eq_true rfl) dX7_farShare_34 (c_X6_oddsOf hI Ro Wo (by omega) (by omega)) ?_
        refine jr_iaddN hg dX7_farShare_37 ?_
        refine jr_istore_n hg dX7_farShare_38 rfl (by decide) rfl ?_
        refine jr_iinc hg 3 rfl (nI (_ + 1)) (nI_1 _) dX7_farShare_39 (by decide) rfl ?_
        refine jr_goto (tgt := 4) hg dX7_farShare_42 (by decide) ?_
        have e : z_fs s k (p + 1) = z_fs s k p + s 12 (3 * p + k) := by rw [z_fs, zsum_s, if_pos h24]
        rw [e] at ih
        exact jr_lv [2, 3, 1, 0] rfl ih
  exact jr_lv [2, 3, 1, 0] rfl (lp4 0 (by omega))

set_option maxRecDepth 100000 in
theorem c_X7_mirrorPairs {E : mm_E} (hI : mm_FX E) {M : mm_M} {s : zS} (hR : zX s M) (hW : zW s) {l : Nat} (hl : l < s 0 1) {a b : Nat} (ha : a ≤ 3) (hb : b ≤ 3) : mm_Cal E mX7_mirrorPairs [.ref (E.1 7), .int (nI l), .int (nI a), .int (nI b)] M (ret1 (.int (nI (zcnt (z_mp s l a b) (s 0 0)))) M) := by
  obtain ⟨Rp, Rl, Rk, Rw, Rt, Rd, Ro, Rq⟩ := hR
  obtain ⟨Wp, Wl, Wk, Ww, Wt, Wd, Wo, Wq⟩ := hW
  have hnp := Wp.1
  have hnl := Wl.1
  have hnk := Wk.1
  refine jr_entry RX7 (by decide +kernel) (Nat.le_of_ble_eq_true rfl) (fun g hg => ?_)
  refine jr_lv (lv' := [(0, .ref (E.1 7)), (1, .int (nI l)), (2, .int (nI a)), (3, .int (nI b))]) [0, 1, 2, 3] rfl ?_
  refine jr_iconst hg (nI 0) dX7_mirrorPairs_0 (by decide) ?_
  refine jr_istore hg dX7_mirrorPairs_1 (by decide) rfl ?_
  refine jr_iconst hg (nI 0) dX7_mirrorPairs_3 (by decide) ?_
  refine jr_istore hg dX7_mirrorPairs_4 (by decide) rfl ?_
  have lp6 : ∀ p : Nat, p ≤ s 0 0 →  mm_J g E mX7_mirrorPairs (ret1 (.int (nI (zcnt (z_mp s l a b) (s 0 0)))) M) 6 [(0, .ref (E.1 7)), (1, .int (nI l)), (2, .int (nI a)), (3, .int (nI b)), (4, .int (nI (zcnt (z_mp s l a b) p))), (5, .int (nI p))] [] (M) := by
    refine jr_up (S := fun p =>  mm_J g E mX7_mirrorPairs (ret1 (.int (nI (zcnt (z_mp s l a b) (s 0 0)))) M) 6 [(0, .ref (E.1 7)), (1, .int (nI l)), (2, .int (nI a)), (3, .int (nI b)), (4, .int (nI (zcnt (z_mp s l a b) p))), (5, .int (nI p))] [] (M)) (n := s 0 0) ?_ ?_
    · show mm_J g E mX7_mirrorPairs (ret1 (.int (nI (zcnt (z_mp s l a b) (s 0 0)))) M) 6 [(0, .ref (E.1 7)), (1, .int (nI l)), (2, .int (nI a)), (3, .int (nI b)), (4, .int (nI (zcnt (z_mp s l a b) (s 0 0)))), (5, .int (nI (s 0 0)))] [] (M)
      refine jr_iload hg 5 rfl dX7_mirrorPairs_6 ?_
      refine jr_aload_n hg 0 rfl rfl dX7_mirrorPairs_8 ?_
      refine gf_X7_26 hg (hI 7 (by decide)) dX7_mirrorPairs_9 ?_
      refine jr_cV0v hg lk_X7_105 (hI 4 (by decide)) rfl rfl (by decide) (by decide) (Nat.le_of_ble_eq_true rfl) dX7_mirrorPairs_12 (c_X4_size hI Rp Wp) ?_
      refine jr_icmp_geN (tgt := 82) hg dX7_mirrorPairs_15 (by decide) (by omega) (by omega) (fun h15 => ?_) (fun h => by omega)
      refine jr_iload hg 4 rfl dX7_mirrorPairs_82 ?_
      exact jr_iret hg rfl dX7_mirrorPairs_84 (⟨rfl, rfl⟩)
    · intro p hp ih 
      show mm_J g E mX7_mirrorPairs (ret1 (.int (nI (zcnt (z_mp s l a b) (s 0 0)))) M) 6 [(0, .ref (E.1 7)), (1, .int (nI l)), (2, .int (nI a)), (3, .int (nI b)), (4, .int (nI (zcnt (z_mp s l a b) p))), (5, .int (nI p))] [] (M)
      refine jr_iload hg 5 rfl dX7_mirrorPairs_6 ?_
      refine jr_aload_n hg 0 rfl rfl dX7_mirrorPairs_8 ?_
      refine gf_X7_26 hg (hI 7 (by decide)) dX7_mirrorPairs_9 ?_
      refine jr_cV0v hg lk_X7_105 (hI 4 (by decide)) rfl rfl (by decide) (by decide) (Nat.le_of_ble_eq_true rfl) dX7_mirrorPairs_12 (c_X4_size hI Rp Wp) ?_
      refine jr_icmp_geN (tgt := 82) hg dX7_mirrorPairs_15 (by decide) (by omega) (by omega) (fun h => by omega) (fun h15 => ?_)
      refine jr_aload_n hg 0 rfl rfl dX7_mirrorPairs_18 ?_
      refine gf_X7_26 hg (hI 7 (by decide)) dX7_mirrorPairs_19 ?_
      refine jr_iload hg 5 rfl dX7_mirrorPairs_22 ?_
      refine jr_cV1v hg lk_X7_73 (hI 4 (by decide)) rfl rfl (by decide) (by decide) (Nat.le_of_ble_eq_true rfl) dX7_mirrorPairs_24 (c_X4_originalOf hI Rp Wp (by omega)) ?_
      refine jr_istore hg dX7_mirrorPairs_27 (by decide) rfl ?_
      refine jr_iload hg 0 rfl dX7_mirrorPairs_29 ?_
      refine jr_iconst hg (-1) dX7_mirrorPairs_31 (by decide) ?_
      refine jr_icmp_eq (tgt := 76) hg dX7_mirrorPairs_32 (by decide) (fun h32 => ?_) (fun h32 => ?_)
      · refine jr_iinc hg 6 rfl (nI (_ + 1)) (nI_1 _) dX7_mirrorPairs_76 (by decide) rfl ?_
        refine jr_goto (tgt := 6) hg dX7_mirrorPairs_79 (by decide) ?_
        have e : zcnt (z_mp s l a b) (p + 1) = zcnt (z_mp s l a b) p + 0 := by
          have q : (z_mp s l a b) p = false := by have z := (zmv_m1 (zW_mo Wp hp)).mp h32; simp [z_mp, z]
          rw [zcnt_s, q]; rfl
        rw [e] at ih
        exact jr_lv [2, 3, 4, 5, 6, 0] rfl ih
      · have hm0 : s 5 p ≠ 0 := fun q => h32 ((zmv_m1 (zW_mo Wp hp)).mpr q)
        have hm1 := (Wp.2 p hp).2.2.2.2
        have hm2 : zmv (s 5 p) = nI (s 5 p - 1) := by rw [zmv, if_neg hm0]
        rw [hm2]
        refine jr_iload hg 5 rfl dX7_mirrorPairs_35 ?_
        refine jr_aload_n hg 1 rfl rfl dX7_mirrorPairs_37 ?_
        refine gf_X7_40 hg (hI 7 (by decide)) dX7_mirrorPairs_38 ?_
        refine jr_iload_n hg 2 rfl rfl dX7_mirrorPairs_41 ?_
        refine jr_iload hg 0 rfl dX7_mirrorPairs_42 ?_
        refine jr_cV2v hg lk_X7_148 (hI 3 (by decide)) rfl rfl (by decide) (by decide) (Nat.le_of_ble_eq_true rfl) dX7_mirrorPairs_44 (c_X3_answerAt hI Rk Wk (by omega) (by omega)) ?_
        refine jr_iload_n hg 3 rfl rfl dX7_mirrorPairs_47 ?_
        refine jr_icmp_ne (tgt := 69) hg dX7_mirrorPairs_48 (by decide) (fun h48 => ?_) (fun h48 => ?_)
        · refine jr_iconst hg (nI 0) dX7_mirrorPairs_69 (by decide) ?_
          refine jr_cS1v hg lk_X7_131 (by decide) (by decide) (Nat.le_of_ble_eq_true rfl) dX7_mirrorPairs_70 (c_X7_oneIf hI (by decide)) ?_
          refine jr_iaddN hg dX7_mirrorPairs_73 ?_
          refine jr_istore hg dX7_mirrorPairs_74 (by decide) rfl ?_
          refine jr_iinc hg 6 rfl (nI (_ + 1)) (nI_1 _) dX7_mirrorPairs_76 (by decide) rfl ?_
          refine jr_goto (tgt := 6) hg dX7_mirrorPairs_79 (by decide) ?_
          have e : zcnt (z_mp s l a b) (p + 1) = zcnt (z_mp s l a b) p + 0 := by
            have q : (z_mp s l a b) p = false := by rw [z_mp, show (z_an s l (s 5 p - 1) == a + 1) = false by have z := fun q => h48 ((zmv_eq (by have := z_an_le Wk l (s 5 p - 1); omega) (by omega)).mpr q); simpa using z]; simp
            rw [zcnt_s, q]; rfl
          rw [e] at ih
          exact jr_lv [3, 4, 5, 6, 1, 0] rfl ih
        · refine jr_aload_n hg 1 rfl rfl dX7_mirrorPairs_51 ?_
          refine gf_X7_40 hg (hI 7 (by decide)) dX7_mirrorPairs_52 ?_
          refine jr_iload_n hg 2 rfl rfl dX7_mirrorPairs_55 ?_
          refine jr_iload hg 6 rfl dX7_mirrorPairs_56 ?_
          refine jr_cV2v hg lk_X7_148 (hI 3 (by decide)) rfl rfl (by decide) (by decide) (Nat.le_of_ble_eq_true rfl) dX7_mirrorPairs_58 (c_X3_answerAt hI Rk Wk (by omega) (by omega)) ?_
          refine jr_iload_n hg 4 rfl rfl dX7_mirrorPairs_61 ?_
          refine jr_icmp_ne (tgt := 69) hg dX7_mirrorPairs_62 (by decide) (fun h62 => ?_) (fun h62 => ?_)
          · refine jr_iconst hg (nI 0) dX7_mirrorPairs_69 (by decide) ?_
            refine jr_cS1v hg lk_X7_131 (by decide) (by decide) (Nat.le_of_ble_eq_true rfl) dX7_mirrorPairs_70 (c_X7_oneIf hI (by decide)) ?_
            refine jr_iaddN hg dX7_mirrorPairs_73 ?_
            refine jr_istore hg dX7_mirrorPairs_74 (by decide) rfl ?_
            refine jr_iinc hg 6 rfl (nI (_ + 1)) (nI_1 _) dX7_mirrorPairs_76 (by decide) rfl ?_
            refine jr_goto (tgt := 6) hg dX7_mirrorPairs_79 (by decide) ?_
            have e : zcnt (z_mp s l a b) (p + 1) = zcnt (z_mp s l a b) p + 0 := by
              have q : (z_mp s l a b) p = false := by rw [z_mp, show (z_an s l p == b + 1) = false by have z := fun q => h62 ((zmv_eq (by have := z_an_le Wk l p; omega) (by omega)).mpr q); simpa using z]; simp
              rw [zcnt_s, q]; rfl
            rw [e] at ih
            exact jr_lv [3, 4, 5, 6, 1, 0] rfl ih
          · refine jr_iconst hg (nI 1) dX7_mirrorPairs_65 (by decide) ?_
            refine jr_goto (tgt := 70) hg dX7_mirrorPairs_66 (by decide) ?_
            refine jr_cS1v hg lk_X7_131 (by decide) (by decide) (Nat.le_of_ble_eq_true rfl) dX7_mirrorPairs_70 (c_X7_oneIf hI (by decide)) ?_
            refine jr_iaddN hg dX7_mirrorPairs_73 ?_
            refine jr_istore hg dX7_mirrorPairs_74 (by decide) rfl ?_
            refine jr_iinc hg 6 rfl (nI (_ + 1)) (nI_1 _) dX7_mirrorPairs_76 (by decide) rfl ?_
            refine jr_goto (tgt := 6) hg dX7_mirrorPairs_79 (by decide) ?_
            have e : zcnt (z_mp s l a b) (p + 1) = zcnt (z_mp s l a b) p + 1 := by
              have q : (z_mp s l a b) p = true := by have z1 := (zmv_eq (by have := z_an_le Wk l (s 5 p - 1); omega) (by omega)).mp h48; have z2 := (zmv_eq (by have := z_an_le Wk l p; omega) (by omega)).mp h62; have z3 : s 5 p ≠ 0 := fun q => h32 ((zmv_m1 (zW_mo Wp hp)).mpr q); simp [z_mp, z1, z2, z3]
              rw [zcnt_s, q]; rfl
            rw [e] at ih
            exact jr_lv [3, 4, 5, 6, 1, 0] rfl ih
  exact jr_lv [2, 3, 4, 5, 1, 0] rfl (lp6 0 (by omega))

set_option maxRecDepth 100000 in
theorem c_X7_sharedPictures {E : mm_E} (hI : mm_FX E) {M : mm_M} {s : zS} (hR : zX s M) (hW : zW s) {l : Nat} (hl : l < s 0 1) {m : Nat} (hm : m < s 0 1) : mm_Cal E mX7_sharedPictures [.ref (E.1 7), .int (nI l), .int (nI m)] M (ret1 (.int (nI (zcnt (z_sh s l m) (s 0 0)))) M) := by
  obtain ⟨Rp, Rl, Rk, Rw, Rt, Rd, Ro, Rq⟩ := hR
  obtain ⟨Wp, Wl, Wk, Ww, Wt, Wd, Wo, Wq⟩ := hW
  have hnp := Wp.1
  have hnl := Wl.1
  have hnk := Wk.1
  refine jr_entry RX7 (by decide +kernel) (Nat.le_of_ble_eq_true rfl) (fun g hg => ?_)
  refine jr_lv (lv' := [(0, .ref (E.1 7)), (1, .int (nI l)), (2, .int (nI m))]) [0, 1, 2] rfl ?_
  refine jr_iconst hg (nI 0) dX7_sharedPictures_0 (by decide) ?_
  refine jr_istore_n hg dX7_sharedPictures_1 rfl (by decide) rfl ?_
  refine jr_iconst hg (nI 0) dX7_sharedPictures_2 (by decide) ?_
  refine jr_istore hg dX7_sharedPictures_3 (by decide) rfl ?_
  have lp5 : ∀ p : Nat, p ≤ s 0 0 →  mm_J g E mX7_sharedPictures (ret1 (.int (nI (zcnt (z_sh s l m) (s 0 0)))) M) 5 [(0, .ref (E.1 7)), (1, .int (nI l)), (2, .int (nI m)), (3, .int (nI (zcnt (z_sh s l m) p))), (4, .int (nI p))] [] (M) := by
    refine jr_up (S := fun p =>  mm_J g E mX7_sharedPictures (ret1 (.int (nI (zcnt (z_sh s l m) (s 0 0)))) M) 5 [(0, .ref (E.1 7)), (1, .int (nI l)), (2, .int (nI m)), (3, .int (nI (zcnt (z_sh s l m) p))), (4, .int (nI p))] [] (M)) (n := s 0 0) ?_ ?_
    · show mm_J g E mX7_sharedPictures (ret1 (.int (nI (zcnt (z_sh s l m) (s 0 0)))) M) 5 [(0, .ref (E.1 7)), (1, .int (nI l)), (2, .int (nI m)), (3, .int (nI (zcnt (z_sh s l m) (s 0 0)))), (4, .int (nI (s 0 0)))] [] (M)
      refine jr_iload hg 4 rfl dX7_sharedPictures_5 ?_
      refine jr_aload_n hg 0 rfl rfl dX7_sharedPictures_7 ?_
      refine gf_X7_26 hg (hI 7 (by decide)) dX7_sharedPictures_8 ?_
      refine jr_cV0v hg lk_X7_105 (hI 4 (by decide)) rfl rfl (by decide) (by decide) (Nat.le_of_ble_eq_true rfl) dX7_sharedPictures_11 (c_X4_size hI Rp Wp) ?_
      refine jr_icmp_geN (tgt := 62) hg dX7_sharedPictures_14 (by decide) (by omega) (by omega) (fun h14 => ?_) (fun h => by omega)
      refine jr_iload_n hg 3 rfl rfl dX7_sharedPictures_62 ?_
      exact jr_iret hg rfl dX7_sharedPictures_63 (⟨rfl, rfl⟩)
    · intro p hp ih 
      show mm_J g E mX7_sharedPictures (ret1 (.int (nI (zcnt (z_sh s l m) (s 0 0)))) M) 5 [(0, .ref (E.1 7)), (1, .int (nI l)), (2, .int (nI m)), (3, .int (nI (zcnt (z_sh s l m) p))), (4, .int (nI p))] [] (M)
      refine jr_iload hg 4 rfl dX7_sharedPictures_5 ?_
      refine jr_aload_n hg 0 rfl rfl dX7_sharedPictures_7 ?_
      refine gf_X7_26 hg (hI 7 (by decide)) dX7_sharedPictures_8 ?_
      refine jr_cV0v hg lk_X7_105 (hI 4 (by decide)) rfl rfl (by decide) (by decide) (Nat.le_of_ble_eq_true rfl) dX7_sharedPictures_11 (c_X4_size hI Rp Wp) ?_
      refine jr_icmp_geN (tgt := 62) hg dX7_sharedPictures_14 (by decide) (by omega) (by omega) (fun h => by omega) (fun h14 => ?_)
      refine jr_iload_n hg 3 rfl rfl dX7_sharedPictures_17 ?_
      refine jr_aload_n hg 0 rfl rfl dX7_sharedPictures_18 ?_
      refine gf_X7_40 hg (hI 7 (by decide)) dX7_sharedPictures_19 ?_
      refine jr_iload_n hg 1 rfl rfl dX7_sharedPictures_22 ?_
      refine jr_iload hg 4 rfl dX7_sharedPictures_23 ?_
      refine jr_cV2v hg lk_X7_148 (hI 3 (by decide)) rfl rfl (by decide) (by decide) (Nat.le_of_ble_eq_true rfl) dX7_sharedPictures_25 (c_X3_answerAt hI Rk Wk (by omega) (by omega)) ?_
      refine jr_iconst hg (-1) dX7_sharedPictures_28 (by decide) ?_
      refine jr_icmp_eq (tgt := 50) hg dX7_sharedPictures_29 (by decide) (fun h29 => ?_) (fun h29 => ?_)
      · refine jr_iconst hg (nI 0) dX7_sharedPictures_50 (by decide) ?_
        refine jr_cS1v hg lk_X7_131 (by decide) (by decide) (Nat.le_of_ble_eq_true rfl) dX7_sharedPictures_51 (c_X7_oneIf hI (by decide)) ?_
        refine jr_iaddN hg dX7_sharedPictures_54 ?_
        refine jr_istore_n hg dX7_sharedPictures_55 rfl (by decide) rfl ?_
        refine jr_iinc hg 4 rfl (nI (_ + 1)) (nI_1 _) dX7_sharedPictures_56 (by decide) rfl ?_
        refine jr_goto (tgt := 5) hg dX7_sharedPictures_59 (by decide) ?_
        have e : zcnt (z_sh s l m) (p + 1) = zcnt (z_sh s l m) p + 0 := by
          have q : (z_sh s l m) p = false := by have z := (zmv_m1 (by have := z_an_le Wk l p; omega)).mp h29; simp [z_sh, z]
          rw [zcnt_s, q]; rfl
        rw [e] at ih
        exact jr_lv [2, 3, 4, 1, 0] rfl ih
      · refine jr_aload_n hg 0 rfl rfl dX7_sharedPictures_32 ?_
        refine gf_X7_40 hg (hI 7 (by decide)) dX7_sharedPictures_33 ?_
        refine jr_iload_n hg 2 rfl rfl dX7_sharedPictures_36 ?_
        refine jr_iload hg 4 rfl dX7_sharedPictures_37 ?_
        refine jr_cV2v hg lk_X7_148 (hI 3 (by decide)) rfl rfl (by decide) (by decide) (Nat.le_of_ble_eq_true rfl) dX7_sharedPictures_39 (c_X3_answerAt hI Rk Wk (by omega) (by omega)) ?_
        refine jr_iconst hg (-1) dX7_sharedPictures_42 (by decide) ?_
        refine jr_icmp_eq (tgt := 50) hg dX7_sharedPictures_43 (by decide) (fun h43 => ?_) (fun h43 => ?_)
        · refine jr_iconst hg (nI 0) dX7_sharedPictures_50 (by decide) ?_
          refine jr_cS1v hg lk_X7_131 (by decide) (by decide) (Nat.le_of_ble_eq_true rfl) dX7_sharedPictures_51 (c_X7_oneIf hI (by decide)) ?_
          refine jr_iaddN hg dX7_sharedPictures_54 ?_
          refine jr_istore_n hg dX7_sharedPictures_55 rfl (by decide) rfl ?_
          refine jr_iinc hg 4 rfl (nI (_ + 1)) (nI_1 _) dX7_sharedPictures_56 (by decide) rfl ?_
          refine jr_goto (tgt := 5) hg dX7_sharedPictures_59 (by decide) ?_
          have e : zcnt (z_sh s l m) (p + 1) = zcnt (z_sh s l m) p + 0 := by
            have q : (z_sh s l m) p = false := by have z := (zmv_m1 (by have := z_an_le Wk m p; omega)).mp h43; simp [z_sh, z]
            rw [zcnt_s, q]; rfl
          rw [e] at ih
          exact jr_lv [2, 3, 4, 1, 0] rfl ih
        · refine jr_iconst hg (nI 1) dX7_sharedPictures_46 (by decide) ?_
          refine jr_goto (tgt := 51) hg dX7_sharedPictures_47 (by decide) ?_
          refine jr_cS1v hg lk_X7_131 (by decide) (by decide) (Nat.le_of_ble_eq_true rfl) dX7_sharedPictures_51 (c_X7_oneIf hI (by decide)) ?_
          refine jr_iaddN hg dX7_sharedPictures_54 ?_
          refine jr_istore_n hg dX7_sharedPictures_55 rfl (by decide) rfl ?_
          refine jr_iinc hg 4 rfl (nI (_ + 1)) (nI_1 _) dX7_sharedPictures_56 (by decide) rfl ?_
          refine jr_goto (tgt := 5) hg dX7_sharedPictures_59 (by decide) ?_
          have e : zcnt (z_sh s l m) (p + 1) = zcnt (z_sh s l m) p + 1 := by
            have q : (z_sh s l m) p = true := by have z1 : z_an s l p ≠ 0 := fun q => h29 ((zmv_m1 (by have := z_an_le Wk l p; omega)).mpr q); have z2 : z_an s m p ≠ 0 := fun q => h43 ((zmv_m1 (by have := z_an_le Wk m p; omega)).mpr q); simp [z_sh, z1, z2]
            rw [zcnt_s, q]; rfl
          rw [e] at ih
          exact jr_lv [2, 3, 4, 1, 0] rfl ih
  exact jr_lv [2, 3, 4, 1, 0] rfl (lp5 0 (by omega))

set_option maxRecDepth 100000 in
theorem c_X7_alikeAnswers {E : mm_E} (hI : mm_FX E) {M : mm_M} {s : zS} (hR : zX s M) (hW : zW s) {l : Nat} (hl : l < s 0 1) {m : Nat} (hm : m < s 0 1) : mm_Cal E mX7_alikeAnswers [.ref (E.1 7), .int (nI l), .int (nI m)] M (ret1 (.int (nI (zcnt (z_al s l m) (s 0 0)))) M) := by
  obtain ⟨Rp, Rl, Rk, Rw, Rt, Rd, Ro, Rq⟩ := hR
  obtain ⟨Wp, Wl, Wk, Ww, Wt, Wd, Wo, Wq⟩ := hW
  have hnp := Wp.1
  have hnl := Wl.1
  have hnk := Wk.1
  refine jr_entry RX7 (by decide +kernel) (Nat.le_of_ble_eq_true rfl) (fun g hg => ?_)
  refine jr_lv (lv' := [(0, .ref (E.1 7)), (1, .int (nI l)), (2, .int (nI m))]) [0, 1, 2] rfl ?_
  refine jr_iconst hg (nI 0) dX7_alikeAnswers_0 (by decide) ?_
  refine jr_istore_n hg dX7_alikeAnswers_1 rfl (by decide) rfl ?_
  refine jr_iconst hg (nI 0) dX7_alikeAnswers_2 (by decide) ?_
  refine jr_istore hg dX7_alikeAnswers_3 (by decide) rfl ?_
  have lp5 : ∀ p : Nat, p ≤ s 0 0 →  mm_J g E mX7_alikeAnswers (ret1 (.int (nI (zcnt (z_al s l m) (s 0 0)))) M) 5 [(0, .ref (E.1 7)), (1, .int (nI l)), (2, .int (nI m)), (3, .int (nI (zcnt (z_al s l m) p))), (4, .int (nI p))] [] (M) := by
    refine jr_up (S := fun p =>  mm_J g E mX7_alikeAnswers (ret1 (.int (nI (zcnt (z_al s l m) (s 0 0)))) M) 5 [(0, .ref (E.1 7)), (1, .int (nI l)), (2, .int (nI m)), (3, .int (nI (zcnt (z_al s l m) p))), (4, .int (nI p))] [] (M)) (n := s 0 0) ?_ ?_
    · show mm_J g E mX7_alikeAnswers (ret1 (.int (nI (zcnt (z_al s l m) (s 0 0)))) M) 5 [(0, .ref (E.1 7)), (1, .int (nI l)), (2, .int (nI m)), (3, .int (nI (zcnt (z_al s l m) (s 0 0)))), (4, .int (nI (s 0 0)))] [] (M)
      refine jr_iload hg 4 rfl dX7_alikeAnswers_5 ?_
      refine jr_aload_n hg 0 rfl rfl dX7_alikeAnswers_7 ?_
      refine gf_X7_26 hg (hI 7 (by decide)) dX7_alikeAnswers_8 ?_
      refine jr_cV0v hg lk_X7_105 (hI 4 (by decide)) rfl rfl (by decide) (by decide) (Nat.le_of_ble_eq_true rfl) dX7_alikeAnswers_11 (c_X4_size hI Rp Wp) ?_
      refine jr_icmp_geN (tgt := 71) hg dX7_alikeAnswers_14 (by decide) (by omega) (by omega) (fun h14 => ?_) (fun h => by omega)
      refine jr_iload_n hg 3 rfl rfl dX7_alikeAnswers_71 ?_
      exact jr_iret hg rfl dX7_alikeAnswers_72 (⟨rfl, rfl⟩)
    · intro p hp ih 
      show mm_J g E mX7_alikeAnswers (ret1 (.int (nI (zcnt (z_al s l m) (s 0 0)))) M) 5 [(0, .ref (E.1 7)), (1, .int (nI l)), (2, .int (nI m)), (3, .int (nI (zcnt (z_al s l m) p))), (4, .int (nI p))] [] (M)
      refine jr_iload hg 4 rfl dX7_alikeAnswers_5 ?_
      refine jr_aload_n hg 0 rfl rfl dX7_alikeAnswers_7 ?_
      refine gf_X7_26 hg (hI 7 (by decide)) dX7_alikeAnswers_8 ?_
      refine jr_cV0v hg lk_X7_105 (hI 4 (by decide)) rfl rfl (by decide) (by decide) (Nat.le_of_ble_eq_true rfl) dX7_alikeAnswers_11 (c_X4_size hI Rp Wp) ?_
      refine jr_icmp_geN (tgt := 71) hg dX7_alikeAnswers_14 (by decide) (by omega) (by omega) (fun h => by omega) (fun h14 => ?_)
      refine jr_iload_n hg 3 rfl rfl dX7_alikeAnswers_17 ?_
      refine jr_aload_n hg 0 rfl rfl dX7_alikeAnswers_18 ?_
      refine gf_X7_40 hg (hI 7 (by decide)) dX7_alikeAnswers_19 ?_
      refine jr_iload_n hg 1 rfl rfl dX7_alikeAnswers_22 ?_
      refine jr_iload hg 4 rfl dX7_alikeAnswers_23 ?_
      refine jr_cV2v hg lk_X7_148 (hI 3 (by decide)) rfl rfl (by decide) (by decide) (Nat.le_of_ble_eq_true rfl) dX7_alikeAnswers_25 (c_X3_answerAt hI Rk Wk (by omega) (by omega)) ?_
      refine jr_iconst hg (-1) dX7_alikeAnswers_28 (by decide) ?_
      refine jr_icmp_eq (tgt := 59) hg dX7_alikeAnswers_29 (by decide) (fun h29 => ?_) (fun h29 => ?_)
      · refine jr_iconst hg (nI 0) dX7_alikeAnswers_59 (by decide) ?_
        refine jr_cS1v hg lk_X7_131 (by decide) (by decide) (Nat.le_of_ble_eq_true rfl) dX7_alikeAnswers_60 (c_X7_oneIf hI (by decide)) ?_
        refine jr_iaddN hg dX7_alikeAnswers_63 ?_
        refine jr_istore_n hg dX7_alikeAnswers_64 rfl (by decide) rfl ?_
        refine jr_iinc hg 4 rfl (nI (_ + 1)) (nI_1 _) dX7_alikeAnswers_65 (by decide) rfl ?_
        refine jr_goto (tgt := 5) hg dX7_alikeAnswers_68 (by decide) ?_
        have e : zcnt (z_al s l m) (p + 1) = zcnt (z_al s l m) p + 0 := by
          have q : (z_al s l m) p = false := by have z := (zmv_m1 (by have := z_an_le Wk l p; omega)).mp h29; simp [z_al, z]
          rw [zcnt_s, q]; rfl
        rw [e] at ih
        exact jr_lv [2, 3, 4, 1, 0] rfl ih
      · refine jr_aload_n hg 0 rfl rfl dX7_alikeAnswers_32 ?_
        refine gf_X7_40 hg (hI 7 (by decide)) dX7_alikeAnswers_33 ?_
        refine jr_iload_n hg 1 rfl rfl dX7_alikeAnswers_36 ?_
        refine jr_iload hg 4 rfl dX7_alikeAnswers_37 ?_
        refine jr_cV2v hg lk_X7_148 (hI 3 (by decide)) rfl rfl (by decide) (by decide) (Nat.le_of_ble_eq_true rfl) dX7_alikeAnswers_39 (c_X3_answerAt hI Rk Wk (by omega) (by omega)) ?_
        refine jr_aload_n hg 0 rfl rfl dX7_alikeAnswers_42 ?_
        refine gf_X7_40 hg (hI 7 (by decide)) dX7_alikeAnswers_43 ?_
        refine jr_iload_n hg 2 rfl rfl dX7_alikeAnswers_46 ?_
        refine jr_iload hg 4 rfl dX7_alikeAnswers_47 ?_
        refine jr_cV2v hg lk_X7_148 (hI 3 (by decide)) rfl rfl (by decide) (by decide) (Nat.le_of_ble_eq_true rfl) dX7_alikeAnswers_49 (c_X3_answerAt hI Rk Wk (by omega) (by omega)) ?_
        refine jr_icmp_ne (tgt := 59) hg dX7_alikeAnswers_52 (by decide) (fun h52 => ?_) (fun h52 => ?_)
        · refine jr_iconst hg (nI 0) dX7_alikeAnswers_59 (by decide) ?_
          refine jr_cS1v hg lk_X7_131 (by decide) (by decide) (Nat.le_of_ble_eq_true rfl) dX7_alikeAnswers_60 (c_X7_oneIf hI (by decide)) ?_
          refine jr_iaddN hg dX7_alikeAnswers_63 ?_
          refine jr_istore_n hg dX7_alikeAnswers_64 rfl (by decide) rfl ?_
          refine jr_iinc hg 4 rfl (nI (_ + 1)) (nI_1 _) dX7_alikeAnswers_65 (by decide) rfl ?_
          refine jr_goto (tgt := 5) hg dX7_alikeAnswers_68 (by decide) ?_
          have e : zcnt (z_al s l m) (p + 1) = zcnt (z_al s l m) p + 0 := by
            have q : (z_al s l m) p = false := by have z : z_an s l p ≠ z_an s m p := fun q => h52 ((zmv_inj (by have := z_an_le Wk l p; omega) (by have := z_an_le Wk m p; omega)).mpr q); simp [z_al, z]
            rw [zcnt_s, q]; rfl
          rw [e] at ih
          exact jr_lv [2, 3, 4, 1, 0] rfl ih
        · refine jr_iconst hg (nI 1) dX7_alikeAnswers_55 (by decide) ?_
          refine jr_goto (tgt := 60) hg dX7_alikeAnswers_56 (by decide) ?_
          refine jr_cS1v hg lk_X7_131 (by decide) (by decide) (Nat.le_of_ble_eq_true rfl) dX7_alikeAnswers_60 (c_X7_oneIf hI (by decide)) ?_
          refine jr_iaddN hg dX7_alikeAnswers_63 ?_
          refine jr_istore_n hg dX7_alikeAnswers_64 rfl (by decide) rfl ?_
          refine jr_iinc hg 4 rfl (nI (_ + 1)) (nI_1 _) dX7_alikeAnswers_65 (by decide) rfl ?_
          refine jr_goto (tgt := 5) hg dX7_alikeAnswers_68 (by decide) ?_
          have e : zcnt (z_al s l m) (p + 1) = zcnt (z_al s l m) p + 1 := by
            have q : (z_al s l m) p = true := by have z1 : z_an s l p ≠ 0 := fun q => h29 ((zmv_m1 (by have := z_an_le Wk l p; omega)).mpr q); have z2 : z_an s l p = z_an s m p := (zmv_inj (by have := z_an_le Wk l p; omega) (by have := z_an_le Wk m p; omega)).mp h52; simp [z_al, ← z2, z1]
            rw [zcnt_s, q]; rfl
          rw [e] at ih
          exact jr_lv [2, 3, 4, 1, 0] rfl ih
  exact jr_lv [2, 3, 4, 1, 0] rfl (lp5 0 (by omega))

set_option maxRecDepth 100000 in
theorem c_X7_mayBeOne {E : mm_E} (hI : mm_FX E) {M : mm_M} {s : zS} (hR : zX s M) (hW : zW s) {l : Nat} (hl : l < s 0 1) {m : Nat} (hm : m < s 0 1) : mm_Cal E mX7_mayBeOne [.ref (E.1 7), .int (nI l), .int (nI m)] M (ret1 (.int (nI (decide (5 ≤ zcnt (z_sh s l m) (s 0 0) ∧ zcnt (z_al s l m) (s 0 0) = zcnt (z_sh s l m) (s 0 0))).toNat)) M) := by
  obtain ⟨Rp, Rl, Rk, Rw, Rt, Rd, Ro, Rq⟩ := hR
  obtain ⟨Wp, Wl, Wk, Ww, Wt, Wd, Wo, Wq⟩ := hW
  have hnp := Wp.1
  have hnl := Wl.1
  have hnk := Wk.1
  have q1 := zcnt_le (z_sh s l m) (s 0 0)
  have q2 := zcnt_le (z_al s l m) (s 0 0)
  refine jr_entry RX7 (by decide +kernel) (Nat.le_of_ble_eq_true rfl) (fun g hg => ?_)
  refine jr_lv (lv' := [(0, .ref (E.1 7)), (1, .int (nI l)), (2, .int (nI m))]) [0, 1, 2] rfl ?_
  refine jr_aload_n hg 0 rfl rfl dX7_mayBeOne_0 ?_
  refine jr_iload_n hg 1 rfl rfl dX7_mayBeOne_1 ?_
  refine jr_iload_n hg 2 rfl rfl dX7_mayBeOne_2 ?_
  refine jr_cV2v hg lk_X7_214 (hI 7 (by decide)) rfl rfl (by decide) (by decide) (Nat.le_of_ble_eq_true rfl) dX7_mayBeOne_3 (c_X7_sharedPictures hI ⟨Rp, Rl, Rk, Rw, Rt, Rd, Ro, Rq⟩ ⟨Wp, Wl, Wk, Ww, Wt, Wd, Wo, Wq⟩ hl hm) ?_
  refine jr_istore_n hg dX7_mayBeOne_6 rfl (by decide) rfl ?_
  refine jr_iload_n hg 0 rfl rfl dX7_mayBeOne_7 ?_
  refine jr_iconst hg (nI 5) dX7_mayBeOne_8 (by decide) ?_
  refine jr_icmp_ltN (tgt := 26) hg dX7_mayBeOne_9 (by decide) (by omega) (by omega) (fun h9 => ?_) (fun h9 => ?_)
  · refine jr_iconst hg (nI 0) dX7_mayBeOne_26 (by decide) ?_
    exact jr_zret hg rfl (by first | exact Or.inl rfl | exact Or.inr rfl | exact z01 _) dX7_mayBeOne_27 (⟨by rw [decide_eq_false (by omega)]; rfl, rfl⟩)
  · refine jr_aload_n hg 1 rfl rfl dX7_mayBeOne_12 ?_
    refine jr_iload_n hg 2 rfl rfl dX7_mayBeOne_13 ?_
    refine jr_iload_n hg 3 rfl rfl dX7_mayBeOne_14 ?_
    refine jr_cV2v hg lk_X7_211 (hI 7 (by decide)) rfl rfl (by decide) (by decide) (Nat.le_of_ble_eq_true rfl) dX7_mayBeOne_15 (c_X7_alikeAnswers hI ⟨Rp, Rl, Rk, Rw, Rt, Rd, Ro, Rq⟩ ⟨Wp, Wl, Wk, Ww, Wt, Wd, Wo, Wq⟩ hl hm) ?_
    refine jr_iload_n hg 0 rfl rfl dX7_mayBeOne_18 ?_
    refine jr_icmp_neN (tgt := 26) hg dX7_mayBeOne_19 (by decide) (by omega) (by omega) (fun h19 => ?_) (fun h19 => ?_)
    · refine jr_iconst hg (nI 0) dX7_mayBeOne_26 (by decide) ?_
      exact jr_zret hg rfl (by first | exact Or.inl rfl | exact Or.inr rfl | exact z01 _) dX7_mayBeOne_27 (⟨by rw [decide_eq_false (by omega)]; rfl, rfl⟩)
    · refine jr_iconst hg (nI 1) dX7_mayBeOne_22 (by decide) ?_
      refine jr_goto (tgt := 27) hg dX7_mayBeOne_23 (by decide) ?_
      exact jr_zret hg rfl (by first | exact Or.inl rfl | exact Or.inr rfl | exact z01 _) dX7_mayBeOne_27 (⟨by rw [decide_eq_true (by omega)]; rfl, rfl⟩)

set_option maxRecDepth 100000 in
theorem c_X7_greenerThan {E : mm_E} (hI : mm_FX E) {M : mm_M} {s : zS} (hR : zX s M) (hW : zW s) {p : Nat} (hp : p < s 0 0) : mm_Cal E mX7_greenerThan [.ref (E.1 7), .int (nI p)] M (ret1 (.int (nI (zcnt (z_gt s p) (s 0 0)))) M) := by
  obtain ⟨Rp, Rl, Rk, Rw, Rt, Rd, Ro, Rq⟩ := hR
  obtain ⟨Wp, Wl, Wk, Ww, Wt, Wd, Wo, Wq⟩ := hW
  have hnp := Wp.1
  have hnl := Wl.1
  have hnk := Wk.1
  have g2 := zcnt_le (z_gr s p) (s 0 2)
  refine jr_entry RX7 (by decide +kernel) (Nat.le_of_ble_eq_true rfl) (fun g hg => ?_)
  refine jr_lv (lv' := [(0, .ref (E.1 7)), (1, .int (nI p))]) [0, 1] rfl ?_
  refine jr_iconst hg (nI 0) dX7_greenerThan_0 (by decide) ?_
  refine jr_istore_n hg dX7_greenerThan_1 rfl (by decide) rfl ?_
  refine jr_iconst hg (nI 0) dX7_greenerThan_2 (by decide) ?_
  refine jr_istore_n hg dX7_greenerThan_3 rfl (by decide) rfl ?_
  have lp4 : ∀ q : Nat, q ≤ s 0 0 →  mm_J g E mX7_greenerThan (ret1 (.int (nI (zcnt (z_gt s p) (s 0 0)))) M) 4 [(0, .ref (E.1 7)), (1, .int (nI p)), (2, .int (nI (zcnt (z_gt s p) q))), (3, .int (nI q))] [] (M) := by
    refine jr_up (S := fun q =>  mm_J g E mX7_greenerThan (ret1 (.int (nI (zcnt (z_gt s p) (s 0 0)))) M) 4 [(0, .ref (E.1 7)), (1, .int (nI p)), (2, .int (nI (zcnt (z_gt s p) q))), (3, .int (nI q))] [] (M)) (n := s 0 0) ?_ ?_
    · show mm_J g E mX7_greenerThan (ret1 (.int (nI (zcnt (z_gt s p) (s 0 0)))) M) 4 [(0, .ref (E.1 7)), (1, .int (nI p)), (2, .int (nI (zcnt (z_gt s p) (s 0 0)))), (3, .int (nI (s 0 0)))] [] (M)
      refine jr_iload_n hg 3 rfl rfl dX7_greenerThan_4 ?_
      refine jr_aload_n hg 0 rfl rfl dX7_greenerThan_5 ?_
      refine gf_X7_26 hg (hI 7 (by decide)) dX7_greenerThan_6 ?_
      refine jr_cV0v hg lk_X7_105 (hI 4 (by decide)) rfl rfl (by decide) (by decide) (Nat.le_of_ble_eq_true rfl) dX7_greenerThan_9 (c_X4_size hI Rp Wp) ?_
      refine jr_icmp_geN (tgt := 66) hg dX7_greenerThan_12 (by decide) (by omega) (by omega) (fun h12 => ?_) (fun h => by omega)
      refine jr_iload_n hg 2 rfl rfl dX7_greenerThan_66 ?_
      exact jr_iret hg rfl dX7_greenerThan_67 (⟨rfl, rfl⟩)
    · intro q hq ih 
      show mm_J g E mX7_greenerThan (ret1 (.int (nI (zcnt (z_gt s p) (s 0 0)))) M) 4 [(0, .ref (E.1 7)), (1, .int (nI p)), (2, .int (nI (zcnt (z_gt s p) q))), (3, .int (nI q))] [] (M)
      have g3 := zcnt_le (z_gr s q) (s 0 2)
      refine jr_iload_n hg 3 rfl rfl dX7_greenerThan_4 ?_
      refine jr_aload_n hg 0 rfl rfl dX7_greenerThan_5 ?_
      refine gf_X7_26 hg (hI 7 (by decide)) dX7_greenerThan_6 ?_
      refine jr_cV0v hg lk_X7_105 (hI 4 (by decide)) rfl rfl (by decide) (by decide) (Nat.le_of_ble_eq_true rfl) dX7_greenerThan_9 (c_X4_size hI Rp Wp) ?_
      refine jr_icmp_geN (tgt := 66) hg dX7_greenerThan_12 (by decide) (by omega) (by omega) (fun h => by omega) (fun h12 => ?_)
      refine jr_aload_n hg 0 rfl rfl dX7_greenerThan_15 ?_
      refine gf_X7_40 hg (hI 7 (by decide)) dX7_greenerThan_16 ?_
      refine jr_iload_n hg 3 rfl rfl dX7_greenerThan_19 ?_
      refine jr_cV1v hg lk_X7_138 (hI 3 (by decide)) rfl rfl (by decide) (by decide) (Nat.le_of_ble_eq_true rfl) dX7_greenerThan_20 (c_X3_greensAt hI Rk Wk (by omega)) ?_
      refine jr_aload_n hg 0 rfl rfl dX7_greenerThan_23 ?_
      refine gf_X7_40 hg (hI 7 (by decide)) dX7_greenerThan_24 ?_
      refine jr_iload_n hg 1 rfl rfl dX7_greenerThan_27 ?_
      refine jr_cV1v hg lk_X7_138 (hI 3 (by decide)) rfl rfl (by decide) (by decide) (Nat.le_of_ble_eq_true rfl) dX7_greenerThan_28 (c_X3_greensAt hI Rk Wk (by omega)) ?_
      refine jr_isub hg dX7_greenerThan_31 ?_
      refine jr_istore hg dX7_greenerThan_32 (by decide) rfl ?_
      refine jr_iload_n hg 3 rfl rfl dX7_greenerThan_34 ?_
      refine jr_iload hg 0 rfl dX7_greenerThan_35 ?_
      refine jr_if_gt (tgt := 50) hg dX7_greenerThan_37 (by decide) (fun h37 => ?_) (fun h37 => ?_)
      · refine jr_iconst hg (nI 1) dX7_greenerThan_50 (by decide) ?_
        refine jr_goto (tgt := 55) hg dX7_greenerThan_51 (by decide) ?_
        refine jr_cS1v hg lk_X7_131 (by decide) (by decide) (Nat.le_of_ble_eq_true rfl) dX7_greenerThan_55 (c_X7_oneIf hI (by decide)) ?_
        refine jr_iaddN hg dX7_greenerThan_58 ?_
        refine jr_istore_n hg dX7_greenerThan_59 rfl (by decide) rfl ?_
        refine jr_iinc hg 4 rfl (nI (_ + 1)) (nI_1 _) dX7_greenerThan_60 (by decide) rfl ?_
        refine jr_goto (tgt := 4) hg dX7_greenerThan_63 (by decide) ?_
        have e : zcnt (z_gt s p) (q + 1) = zcnt (z_gt s p) q + 1 := by
          have qq : (z_gt s p) q = true := by have z1 := zsub_gt (a := zcnt (z_gr s q) (s 0 2)) (b := zcnt (z_gr s p) (s 0 2)) (by omega) (by omega); have z2 := zsub_0 (a := zcnt (z_gr s q) (s 0 2)) (b := zcnt (z_gr s p) (s 0 2)) (by omega) (by omega); exact decide_eq_true (Or.inl (z1.mp h37))
          rw [zcnt_s, qq]; rfl
        rw [e] at ih
        exact jr_lv [3, 4, 1, 0] rfl ih
      · refine jr_iload hg 0 rfl dX7_greenerThan_40 ?_
        refine jr_if_ne (tgt := 54) hg dX7_greenerThan_42 (by decide) (fun h42 => ?_) (fun h42 => ?_)
        · refine jr_iconst hg (nI 0) dX7_greenerThan_54 (by decide) ?_
          refine jr_cS1v hg lk_X7_131 (by decide) (by decide) (Nat.le_of_ble_eq_true rfl) dX7_greenerThan_55 (c_X7_oneIf hI (by decide)) ?_
          refine jr_iaddN hg dX7_greenerThan_58 ?_
          refine jr_istore_n hg dX7_greenerThan_59 rfl (by decide) rfl ?_
          refine jr_iinc hg 4 rfl (nI (_ + 1)) (nI_1 _) dX7_greenerThan_60 (by decide) rfl ?_
          refine jr_goto (tgt := 4) hg dX7_greenerThan_63 (by decide) ?_
          have e : zcnt (z_gt s p) (q + 1) = zcnt (z_gt s p) q + 0 := by
            have qq : (z_gt s p) q = false := by have z1 := zsub_gt (a := zcnt (z_gr s q) (s 0 2)) (b := zcnt (z_gr s p) (s 0 2)) (by omega) (by omega); have z2 := zsub_0 (a := zcnt (z_gr s q) (s 0 2)) (b := zcnt (z_gr s p) (s 0 2)) (by omega) (by omega); exact decide_eq_false (by rintro (r | r); exact h37 (z1.mpr r); exact h42 (z2.mpr r.1))
            rw [zcnt_s, qq]; rfl
          rw [e] at ih
          exact jr_lv [3, 4, 1, 0] rfl ih
        · refine jr_iload_n hg 4 rfl rfl dX7_greenerThan_45 ?_
          refine jr_iload_n hg 2 rfl rfl dX7_greenerThan_46 ?_
          refine jr_icmp_geN (tgt := 54) hg dX7_greenerThan_47 (by decide) (by omega) (by omega) (fun h47 => ?_) (fun h47 => ?_)
          · refine jr_iconst hg (nI 0) dX7_greenerThan_54 (by decide) ?_
            refine jr_cS1v hg lk_X7_131 (by decide) (by decide) (Nat.le_of_ble_eq_true rfl) dX7_greenerThan_55 (c_X7_oneIf hI (by decide)) ?_
            refine jr_iaddN hg dX7_greenerThan_58 ?_
            refine jr_istore_n hg dX7_greenerThan_59 rfl (by decide) rfl ?_
            refine jr_iinc hg 4 rfl (nI (_ + 1)) (nI_1 _) dX7_greenerThan_60 (by decide) rfl ?_
            refine jr_goto (tgt := 4) hg dX7_greenerThan_63 (by decide) ?_
            have e : zcnt (z_gt s p) (q + 1) = zcnt (z_gt s p) q + 0 := by
              have qq : (z_gt s p) q = false := by have z1 := zsub_gt (a := zcnt (z_gr s q) (s 0 2)) (b := zcnt (z_gr s p) (s 0 2)) (by omega) (by omega); have z2 := zsub_0 (a := zcnt (z_gr s q) (s 0 2)) (b := zcnt (z_gr s p) (s 0 2)) (by omega) (by omega); exact decide_eq_false (by rintro (r | r); exact h37 (z1.mpr r); omega)
              rw [zcnt_s, qq]; rfl
            rw [e] at ih
            exact jr_lv [3, 4, 1, 0] rfl ih
          · refine jr_iconst hg (nI 1) dX7_greenerThan_50 (by decide) ?_
            refine jr_goto (tgt := 55) hg dX7_greenerThan_51 (by decide) ?_
            refine jr_cS1v hg lk_X7_131 (by decide) (by decide) (Nat.le_of_ble_eq_true rfl) dX7_greenerThan_55 (c_X7_oneIf hI (by decide)) ?_
            refine jr_iaddN hg dX7_greenerThan_58 ?_
            refine jr_istore_n hg dX7_greenerThan_59 rfl (by decide) rfl ?_
            refine jr_iinc hg 4 rfl (nI (_ + 1)) (nI_1 _) dX7_greenerThan_60 (by decide) rfl ?_
            refine jr_goto (tgt := 4) hg dX7_greenerThan_63 (by decide) ?_
            have e : zcnt (z_gt s p) (q + 1) = zcnt (z_gt s p) q + 1 := by
              have qq : (z_gt s p) q = true := by have z1 := zsub_gt (a := zcnt (z_gr s q) (s 0 2)) (b := zcnt (z_gr s p) (s 0 2)) (by omega) (by omega); have z2 := zsub_0 (a := zcnt (z_gr s q) (s 0 2)) (b := zcnt (z_gr s p) (s 0 2)) (by omega) (by omega); exact decide_eq_true (Or.inr ⟨z2.mp h42, h47⟩)
              rw [zcnt_s, qq]; rfl
            rw [e] at ih
            exact jr_lv [3, 4, 1, 0] rfl ih
  exact jr_lv [2, 3, 1, 0] rfl (lp4 0 (by omega))

set_option maxRecDepth 100000 in
theorem c_X7_isSure {E : mm_E} (hI : mm_FX E) {M : mm_M} {s : zS} (hR : zX s M) (hW : zW s) {p : Nat} (hp : p < s 0 0) {a : Nat} (ha : a ≤ 2) : mm_Cal E mX7_isSure [.ref (E.1 7), .int (nI p), .int (nI a)] M (ret1 (.int (nI (z_su s p a).toNat)) M) := by
  obtain ⟨Rp, Rl, Rk, Rw, Rt, Rd, Ro, Rq⟩ := hR
  obtain ⟨Wp, Wl, Wk, Ww, Wt, Wd, Wo, Wq⟩ := hW
  have hnp := Wp.1
  have hnl := Wl.1
  have hnk := Wk.1
  have w7 := zW_w100 Ww 7 (by decide)
  have o1 := Wo.1 (3 * p + a) (by omega)
  refine jr_entry RX7 (by decide +kernel) (Nat.le_of_ble_eq_true rfl) (fun g hg => ?_)
  refine jr_lv (lv' := [(0, .ref (E.1 7)), (1, .int (nI p)), (2, .int (nI a))]) [0, 1, 2] rfl ?_
  refine jr_iload_n hg 2 rfl rfl dX7_isSure_0 ?_
  refine jr_cS1v hg lk_X7_58 (by decide) (by decide) (Nat.le_of_ble_eq_true rfl) dX7_isSure_1 ((by have h := c_X7_isKindN hI (M := M) (j := a) (by omega); rw [decide_eq_true (by omega)] at h; exact h)) ?_
  refine jr_if_eqZ (tgt := 35) hg dX7_isSure_4 (by decide) (fun h => absurd h (by decide)) (fun h4 => ?_)
  refine jr_aload_n hg 0 rfl rfl dX7_isSure_7 ?_
  refine gf_X7_47 hg (hI 7 (by decide)) dX7_isSure_8 ?_
  refine jr_iload_n hg 1 rfl rfl dX7_isSure_11 ?_
  refine jr_iload_n hg 2 rfl rfl dX7_isSure_12 ?_
  refine jr_cV2v hg lk_X7_196 (hI 6 (by decide)) rfl rfl (by decide) (by decide) (Nat.le_of_ble_eq_true rfl) dX7_isSure_13 (c_X6_oddsOf hI Ro Wo (by omega) (by omega)) ?_
  refine jr_aload_n hg 0 rfl rfl dX7_isSure_16 ?_
  refine gf_X7_10 hg (hI 7 (by decide)) dX7_isSure_17 ?_
  refine jr_bipush hg (nI 7) dX7_isSure_20 (by decide) ?_
  refine jr_cV1v hg lk_X7_102 (hI 1 (by decide)) rfl rfl (by decide) (by decide) (Nat.le_of_ble_eq_true rfl) dX7_isSure_22 (c_X1_valueOf hI Rw (by decide)) ?_
  refine jr_bipush hg (nI 10) dX7_isSure_25 (by decide) ?_
  refine jr_imulN hg dX7_isSure_27 ?_
  refine jr_icmp_ltN (tgt := 35) hg dX7_isSure_28 (by decide) (by omega) (by omega) (fun h28 => ?_) (fun h28 => ?_)
  · refine jr_iconst hg (nI 0) dX7_isSure_35 (by decide) ?_
    exact jr_zret hg rfl (by first | exact Or.inl rfl | exact Or.inr rfl | exact z01 _) dX7_isSure_36 (⟨by rw [z_su, decide_eq_false (by omega)]; rfl, rfl⟩)
  · refine jr_iconst hg (nI 1) dX7_isSure_31 (by decide) ?_
    refine jr_goto (tgt := 36) hg dX7_isSure_32 (by decide) ?_
    exact jr_zret hg rfl (by first | exact Or.inl rfl | exact Or.inr rfl | exact z01 _) dX7_isSure_36 (⟨by rw [z_su, decide_eq_true (by omega)]; rfl, rfl⟩)

set_option maxRecDepth 100000 in
theorem c_X7_isGivenAs {E : mm_E} (hI : mm_FX E) {M : mm_M} {s : zS} (hR : zX s M) (hW : zW s) {p : Nat} (hp : p < s 0 0) {a : Nat} (ha : a ≤ 2) : mm_Cal E mX7_isGivenAs [.ref (E.1 7), .int (nI p), .int (nI a)] M (ret1 (.int (nI (z_ga s p a).toNat)) M) := by
  obtain ⟨Rp, Rl, Rk, Rw, Rt, Rd, Ro, Rq⟩ := hR
  obtain ⟨Wp, Wl, Wk, Ww, Wt, Wd, Wo, Wq⟩ := hW
  have hnp := Wp.1
  have hnl := Wl.1
  have hnk := Wk.1
  refine jr_entry RX7 (by decide +kernel) (Nat.le_of_ble_eq_true rfl) (fun g hg => ?_)
  refine jr_lv (lv' := [(0, .ref (E.1 7)), (1, .int (nI p)), (2, .int (nI a))]) [0, 1, 2] rfl ?_
  refine jr_iconst hg (nI 0) dX7_isGivenAs_0 (by decide) ?_
  refine jr_istore_n hg dX7_isGivenAs_1 rfl (by decide) rfl ?_
  have lp2 : ∀ l : Nat, l ≤ s 0 1 → zfind (z_gl s p a) l = 0 → mm_J g E mX7_isGivenAs (ret1 (.int (nI (z_ga s p a).toNat)) M) 2 [(0, .ref (E.1 7)), (1, .int (nI p)), (2, .int (nI a)), (3, .int (nI l))] [] (M) := by
    refine jr_up (S := fun l => zfind (z_gl s p a) l = 0 → mm_J g E mX7_isGivenAs (ret1 (.int (nI (z_ga s p a).toNat)) M) 2 [(0, .ref (E.1 7)), (1, .int (nI p)), (2, .int (nI a)), (3, .int (nI l))] [] (M)) (n := s 0 1) ?_ ?_
    · intro hz
      show mm_J g E mX7_isGivenAs (ret1 (.int (nI (z_ga s p a).toNat)) M) 2 [(0, .ref (E.1 7)), (1, .int (nI p)), (2, .int (nI a)), (3, .int (nI (s 0 1)))] [] (M)
      refine jr_iload_n hg 3 rfl rfl dX7_isGivenAs_2 ?_
      refine jr_aload_n hg 0 rfl rfl dX7_isGivenAs_3 ?_
      refine gf_X7_33 hg (hI 7 (by decide)) dX7_isGivenAs_4 ?_
      refine jr_cV0v hg lk_X7_108 (hI 2 (by decide)) rfl rfl (by decide) (by decide) (Nat.le_of_ble_eq_true rfl) dX7_isGivenAs_7 (c_X2_size hI Rl Wl) ?_
      refine jr_icmp_geN (tgt := 55) hg dX7_isGivenAs_10 (by decide) (by omega) (by omega) (fun h10 => ?_) (fun h => by omega)
      refine jr_iconst hg (nI 0) dX7_isGivenAs_55 (by decide) ?_
      exact jr_zret hg rfl (by first | exact Or.inl rfl | exact Or.inr rfl | exact z01 _) dX7_isGivenAs_56 (⟨by rw [z_ga, hz]; rfl, rfl⟩)
    · intro l hl ih hz
      show mm_J g E mX7_isGivenAs (ret1 (.int (nI (z_ga s p a).toNat)) M) 2 [(0, .ref (E.1 7)), (1, .int (nI p)), (2, .int (nI a)), (3, .int (nI l))] [] (M)
      have f2 := Wl.2 l hl
      refine jr_iload_n hg 3 rfl rfl dX7_isGivenAs_2 ?_
      refine jr_aload_n hg 0 rfl rfl dX7_isGivenAs_3 ?_
      refine gf_X7_33 hg (hI 7 (by decide)) dX7_isGivenAs_4 ?_
      refine jr_cV0v hg lk_X7_108 (hI 2 (by decide)) rfl rfl (by decide) (by decide) (Nat.le_of_ble_eq_true rfl) dX7_isGivenAs_7 (c_X2_size hI Rl Wl) ?_
      refine jr_icmp_geN (tgt := 55) hg dX7_isGivenAs_10 (by decide) (by omega) (by omega) (fun h => by omega) (fun h10 => ?_)
      refine jr_aload_n hg 0 rfl rfl dX7_isGivenAs_13 ?_
      refine gf_X7_33 hg (hI 7 (by decide)) dX7_isGivenAs_14 ?_
      refine jr_iload_n hg 3 rfl rfl dX7_isGivenAs_17 ?_
      refine jr_cV1v hg lk_X7_261 (hI 2 (by decide)) rfl rfl (by decide) (by decide) (Nat.le_of_ble_eq_true rfl) dX7_isGivenAs_18 (c_X2_sortOf hI Rl Wl (by omega)) ?_
      refine jr_iconst hg (nI 4) dX7_isGivenAs_21 (by decide) ?_
      refine jr_icmp_neN (tgt := 49) hg dX7_isGivenAs_22 (by decide) (by omega) (by omega) (fun h22 => ?_) (fun h22 => ?_)
      · refine jr_iinc hg 3 rfl (nI (_ + 1)) (nI_1 _) dX7_isGivenAs_49 (by decide) rfl ?_
        refine jr_goto (tgt := 2) hg dX7_isGivenAs_52 (by decide) ?_
        have e : z_gl s p a l = false := by simp [z_gl, h22]
        exact jr_lv [1, 2, 3, 0] rfl (ih (by rw [zfind, if_pos hz, e]; rfl))
      · refine jr_aload_n hg 0 rfl rfl dX7_isGivenAs_25 ?_
        refine gf_X7_40 hg (hI 7 (by decide)) dX7_isGivenAs_26 ?_
        refine jr_iload_n hg 3 rfl rfl dX7_isGivenAs_29 ?_
        refine jr_iload_n hg 1 rfl rfl dX7_isGivenAs_30 ?_
        refine jr_cV2v hg lk_X7_148 (hI 3 (by decide)) rfl rfl (by decide) (by decide) (Nat.le_of_ble_eq_true rfl) dX7_isGivenAs_31 (c_X3_answerAt hI Rk Wk (by omega) (by omega)) ?_
        refine jr_iload_n hg 2 rfl rfl dX7_isGivenAs_34 ?_
        refine jr_icmp_ne (tgt := 49) hg dX7_isGivenAs_35 (by decide) (fun h35 => ?_) (fun h35 => ?_)
        · refine jr_iinc hg 3 rfl (nI (_ + 1)) (nI_1 _) dX7_isGivenAs_49 (by decide) rfl ?_
          refine jr_goto (tgt := 2) hg dX7_isGivenAs_52 (by decide) ?_
          have e : z_gl s p a l = false := by rw [z_gl, show (z_an s l p == a + 1) = false by have z := fun q => h35 ((zmv_eq (by have := z_an_le Wk l p; omega) (by omega)).mpr q); simpa using z]; simp
          exact jr_lv [1, 2, 3, 0] rfl (ih (by rw [zfind, if_pos hz, e]; rfl))
        · refine jr_aload_n hg 0 rfl rfl dX7_isGivenAs_38 ?_
          refine jr_iload_n hg 1 rfl rfl dX7_isGivenAs_39 ?_
          refine jr_iload_n hg 2 rfl rfl dX7_isGivenAs_40 ?_
          refine jr_cV2v hg lk_X7_293 (hI 7 (by decide)) rfl rfl (by decide) (by decide) (Nat.le_of_ble_eq_true rfl) dX7_isGivenAs_41 (c_X7_isSure hI ⟨Rp, Rl, Rk, Rw, Rt, Rd, Ro, Rq⟩ ⟨Wp, Wl, Wk, Ww, Wt, Wd, Wo, Wq⟩ hp ha) ?_
          refine jr_if_eqZ (tgt := 49) hg dX7_isGivenAs_44 (by decide) (fun h44 => ?_) (fun h44 => ?_)
          · refine jr_iinc hg 3 rfl (nI (_ + 1)) (nI_1 _) dX7_isGivenAs_49 (by decide) rfl ?_
            refine jr_goto (tgt := 2) hg dX7_isGivenAs_52 (by decide) ?_
            have e : z_gl s p a l = false := by simp [z_gl, h44]
            exact jr_lv [1, 2, 3, 0] rfl (ih (by rw [zfind, if_pos hz, e]; rfl))
          · refine jr_iconst hg (nI 1) dX7_isGivenAs_47 (by decide) ?_
            exact jr_zret hg rfl (by first | exact Or.inl rfl | exact Or.inr rfl | exact z01 _) dX7_isGivenAs_48 (⟨by have z := (zmv_eq (by have := z_an_le Wk l p; omega) (by omega)).mp h35; have e := zfind_of (n := s 0 1) (P := z_gl s p a) hl (by simp [z_gl, h22, z, h44]) (zfind_0 hz); rw [z_ga, e]; rfl, rfl⟩)
  exact jr_lv [1, 2, 3, 0] rfl (lp2 0 (by omega) rfl)

set_option maxRecDepth 100000 in
theorem c_X7_isGiven {E : mm_E} (hI : mm_FX E) {M : mm_M} {s : zS} (hR : zX s M) (hW : zW s) {p : Nat} (hp : p < s 0 0) : mm_Cal E mX7_isGiven [.ref (E.1 7), .int (nI p)] M (ret1 (.int (nI (z_gv s p).toNat)) M) := by
  obtain ⟨Rp, Rl, Rk, Rw, Rt, Rd, Ro, Rq⟩ := hR
  obtain ⟨Wp, Wl, Wk, Ww, Wt, Wd, Wo, Wq⟩ := hW
  have hnp := Wp.1
  have hnl := Wl.1
  have hnk := Wk.1
  refine jr_entry RX7 (by decide +kernel) (Nat.le_of_ble_eq_true rfl) (fun g hg => ?_)
  refine jr_lv (lv' := [(0, .ref (E.1 7)), (1, .int (nI p))]) [0, 1] rfl ?_
  refine jr_aload_n hg 0 rfl rfl dX7_isGiven_0 ?_
  refine jr_iload_n hg 1 rfl rfl dX7_isGiven_1 ?_
  refine jr_iconst hg (nI 0) dX7_isGiven_2 (by decide) ?_
  refine jr_cV2v hg lk_X7_296 (hI 7 (by decide)) rfl rfl (by decide) (by decide) (Nat.le_of_ble_eq_true rfl) dX7_isGiven_3 (c_X7_isGivenAs hI ⟨Rp, Rl, Rk, Rw, Rt, Rd, Ro, Rq⟩ ⟨Wp, Wl, Wk, Ww, Wt, Wd, Wo, Wq⟩ hp (by decide)) ?_
  refine jr_if_neZ (tgt := 27) hg dX7_isGiven_6 (by decide) (fun h6 => ?_) (fun h6 => ?_)
  · refine jr_iconst hg (nI 1) dX7_isGiven_27 (by decide) ?_
    refine jr_goto (tgt := 32) hg dX7_isGiven_28 (by decide) ?_
    exact jr_zret hg rfl (by first | exact Or.inl rfl | exact Or.inr rfl | exact z01 _) dX7_isGiven_32 (⟨by rw [z_gv, h6]; rfl, rfl⟩)
  · refine jr_aload_n hg 0 rfl rfl dX7_isGiven_9 ?_
    refine jr_iload_n hg 1 rfl rfl dX7_isGiven_10 ?_
    refine jr_iconst hg (nI 1) dX7_isGiven_11 (by decide) ?_
    refine jr_cV2v hg lk_X7_296 (hI 7 (by decide)) rfl rfl (by decide) (by decide) (Nat.le_of_ble_eq_true rfl) dX7_isGiven_12 (c_X7_isGivenAs hI ⟨Rp, Rl, Rk, Rw, Rt, Rd, Ro, Rq⟩ ⟨Wp, Wl, Wk, Ww, Wt, Wd, Wo, Wq⟩ hp (by decide)) ?_
    refine jr_if_neZ (tgt := 27) hg dX7_isGiven_15 (by decide) (fun h15 => ?_) (fun h15 => ?_)
    · refine jr_iconst hg (nI 1) dX7_isGiven_27 (by decide) ?_
      refine jr_goto (tgt := 32) hg dX7_isGiven_28 (by decide) ?_
      exact jr_zret hg rfl (by first | exact Or.inl rfl | exact Or.inr rfl | exact z01 _) dX7_isGiven_32 (⟨by rw [z_gv, h6, h15]; rfl, rfl⟩)
    · refine jr_aload_n hg 0 rfl rfl dX7_isGiven_18 ?_
      refine jr_iload_n hg 1 rfl rfl dX7_isGiven_19 ?_
      refine jr_iconst hg (nI 2) dX7_isGiven_20 (by decide) ?_
      refine jr_cV2v hg lk_X7_296 (hI 7 (by decide)) rfl rfl (by decide) (by decide) (Nat.le_of_ble_eq_true rfl) dX7_isGiven_21 (c_X7_isGivenAs hI ⟨Rp, Rl, Rk, Rw, Rt, Rd, Ro, Rq⟩ ⟨Wp, Wl, Wk, Ww, Wt, Wd, Wo, Wq⟩ hp (by decide)) ?_
      refine jr_if_eqZ (tgt := 31) hg dX7_isGiven_24 (by decide) (fun h24 => ?_) (fun h24 => ?_)
      · refine jr_iconst hg (nI 0) dX7_isGiven_31 (by decide) ?_
        exact jr_zret hg rfl (by first | exact Or.inl rfl | exact Or.inr rfl | exact z01 _) dX7_isGiven_32 (⟨by rw [z_gv, h6, h15, h24]; rfl, rfl⟩)
      · refine jr_iconst hg (nI 1) dX7_isGiven_27 (by decide) ?_
        refine jr_goto (tgt := 32) hg dX7_isGiven_28 (by decide) ?_
        exact jr_zret hg rfl (by first | exact Or.inl rfl | exact Or.inr rfl | exact z01 _) dX7_isGiven_32 (⟨by rw [z_gv, h6, h15, h24]; rfl, rfl⟩)

set_option maxRecDepth 100000 in
theorem c_X7_givenPictures {E : mm_E} (hI : mm_FX E) {M : mm_M} {s : zS} (hR : zX s M) (hW : zW s) : mm_Cal E mX7_givenPictures [.ref (E.1 7)] M (ret1 (.int (nI (zcnt (z_gv s) (s 0 0)))) M) := by
  obtain ⟨Rp, Rl, Rk, Rw, Rt, Rd, Ro, Rq⟩ := hR
  obtain ⟨Wp, Wl, Wk, Ww, Wt, Wd, Wo, Wq⟩ := hW
  have hnp := Wp.1
  have hnl := Wl.1
  have hnk := Wk.1
  refine jr_entry RX7 (by decide +kernel) (Nat.le_of_ble_eq_true rfl) (fun g hg => ?_)
  refine jr_lv (lv' := [(0, .ref (E.1 7))]) [0] rfl ?_
  refine jr_iconst hg (nI 0) dX7_givenPictures_0 (by decide) ?_
  refine jr_istore_n hg dX7_givenPictures_1 rfl (by decide) rfl ?_
  refine jr_iconst hg (nI 0) dX7_givenPictures_2 (by decide) ?_
  refine jr_istore_n hg dX7_givenPictures_3 rfl (by decide) rfl ?_
  have lp4 : ∀ p : Nat, p ≤ s 0 0 →  mm_J g E mX7_givenPictures (ret1 (.int (nI (zcnt (z_gv s) (s 0 0)))) M) 4 [(0, .ref (E.1 7)), (1, .int (nI (zcnt (z_gv s) p))), (2, .int (nI p))] [] (M) := by
    refine jr_up (S := fun p =>  mm_J g E mX7_givenPictures (ret1 (.int (nI (zcnt (z_gv s) (s 0 0)))) M) 4 [(0, .ref (E.1 7)), (1, .int (nI (zcnt (z_gv s) p))), (2, .int (nI p))] [] (M)) (n := s 0 0) ?_ ?_
    · show mm_J g E mX7_givenPictures (ret1 (.int (nI (zcnt (z_gv s) (s 0 0)))) M) 4 [(0, .ref (E.1 7)), (1, .int (nI (zcnt (z_gv s) (s 0 0)))), (2, .int (nI (s 0 0)))] [] (M)
      refine jr_iload_n hg 2 rfl rfl dX7_givenPictures_4 ?_
      refine jr_aload_n hg 0 rfl rfl dX7_givenPictures_5 ?_
      refine gf_X7_26 hg (hI 7 (by decide)) dX7_givenPictures_6 ?_
      refine jr_cV0v hg lk_X7_105 (hI 4 (by decide)) rfl rfl (by decide) (by decide) (Nat.le_of_ble_eq_true rfl) dX7_givenPictures_9 (c_X4_size hI Rp Wp) ?_
      refine jr_icmp_geN (tgt := 32) hg dX7_givenPictures_12 (by decide) (by omega) (by omega) (fun h12 => ?_) (fun h => by omega)
      refine jr_iload_n hg 1 rfl rfl dX7_givenPictures_32 ?_
      exact jr_iret hg rfl dX7_givenPictures_33 (⟨rfl, rfl⟩)
    · intro p hp ih 
      show mm_J g E mX7_givenPictures (ret1 (.int (nI (zcnt (z_gv s) (s 0 0)))) M) 4 [(0, .ref (E.1 7)), (1, .int (nI (zcnt (z_gv s) p))), (2, .int (nI p))] [] (M)
      refine jr_iload_n hg 2 rfl rfl dX7_givenPictures_4 ?_
      refine jr_aload_n hg 0 rfl rfl dX7_givenPictures_5 ?_
      refine gf_X7_26 hg (hI 7 (by decide)) dX7_givenPictures_6 ?_
      refine jr_cV0v hg lk_X7_105 (hI 4 (by decide)) rfl rfl (by decide) (by decide) (Nat.le_of_ble_eq_true rfl) dX7_givenPictures_9 (c_X4_size hI Rp Wp) ?_
      refine jr_icmp_geN (tgt := 32) hg dX7_givenPictures_12 (by decide) (by omega) (by omega) (fun h => by omega) (fun h12 => ?_)
      refine jr_iload_n hg 1 rfl rfl dX7_givenPictures_15 ?_
      refine jr_aload_n hg 0 rfl rfl dX7_givenPictures_16 ?_
      refine jr_iload_n hg 2 rfl rfl dX7_givenPictures_17 ?_
      refine jr_cV1v hg lk_X7_299 (hI 7 (by decide)) rfl rfl (by decide) (by decide) (Nat.le_of_ble_eq_true rfl) dX7_givenPictures_18 (c_X7_isGiven hI ⟨Rp, Rl, Rk, Rw, Rt, Rd, Ro, Rq⟩ ⟨Wp, Wl, Wk, Ww, Wt, Wd, Wo, Wq⟩ hp) ?_
      refine jr_cS1v hg lk_X7_131 (by decide) (by decide) (Nat.le_of_ble_eq_true rfl) dX7_givenPictures_21 (c_X7_oneIf hI (Bool.toNat_le _)) ?_
      refine jr_iaddN hg dX7_givenPictures_24 ?_
      refine jr_istore_n hg dX7_givenPictures_25 rfl (by decide) rfl ?_
      refine jr_iinc hg 2 rfl (nI (_ + 1)) (nI_1 _) dX7_givenPictures_26 (by decide) rfl ?_
      refine jr_goto (tgt := 4) hg dX7_givenPictures_29 (by decide) ?_
      exact jr_lv [2, 1, 0] rfl ih
  exact jr_lv [2, 1, 0] rfl (lp4 0 (by omega))

set_option maxRecDepth 100000 in
theorem c_X7_looksOfOthersAtGiven {E : mm_E} (hI : mm_FX E) {M : mm_M} {s : zS} (hR : zX s M) (hW : zW s) : mm_Cal E mX7_looksOfOthersAtGiven [.ref (E.1 7)] M (ret1 (.int (nI (zcnt (z_go2 s) (s 0 2)))) M) := by
  obtain ⟨Rp, Rl, Rk, Rw, Rt, Rd, Ro, Rq⟩ := hR
  obtain ⟨Wp, Wl, Wk, Ww, Wt, Wd, Wo, Wq⟩ := hW
  have hnp := Wp.1
  have hnl := Wl.1
  have hnk := Wk.1
  refine jr_entry RX7 (by decide +kernel) (Nat.le_of_ble_eq_true rfl) (fun g hg => ?_)
  refine jr_lv (lv' := [(0, .ref (E.1 7))]) [0] rfl ?_
  refine jr_iconst hg (nI 0) dX7_looksOfOthersAtGiven_0 (by decide) ?_
  refine jr_istore_n hg dX7_looksOfOthersAtGiven_1 rfl (by decide) rfl ?_
  refine jr_iconst hg (nI 0) dX7_looksOfOthersAtGiven_2 (by decide) ?_
  refine jr_istore_n hg dX7_looksOfOthersAtGiven_3 rfl (by decide) rfl ?_
  have lp4 : ∀ p : Nat, p ≤ s 0 2 →  mm_J g E mX7_looksOfOthersAtGiven (ret1 (.int (nI (zcnt (z_go2 s) (s 0 2)))) M) 4 [(0, .ref (E.1 7)), (1, .int (nI (zcnt (z_go2 s) p))), (2, .int (nI p))] [] (M) := by
    refine jr_up (S := fun p =>  mm_J g E mX7_looksOfOthersAtGiven (ret1 (.int (nI (zcnt (z_go2 s) (s 0 2)))) M) 4 [(0, .ref (E.1 7)), (1, .int (nI (zcnt (z_go2 s) p))), (2, .int (nI p))] [] (M)) (n := s 0 2) ?_ ?_
    · show mm_J g E mX7_looksOfOthersAtGiven (ret1 (.int (nI (zcnt (z_go2 s) (s 0 2)))) M) 4 [(0, .ref (E.1 7)), (1, .int (nI (zcnt (z_go2 s) (s 0 2)))), (2, .int (nI (s 0 2)))] [] (M)
      refine jr_iload_n hg 2 rfl rfl dX7_looksOfOthersAtGiven_4 ?_
      refine jr_aload_n hg 0 rfl rfl dX7_looksOfOthersAtGiven_5 ?_
      refine gf_X7_40 hg (hI 7 (by decide)) dX7_looksOfOthersAtGiven_6 ?_
      refine jr_cV0v hg lk_X7_109 (hI 3 (by decide)) rfl rfl (by decide) (by decide) (Nat.le_of_ble_eq_true rfl) dX7_looksOfOthersAtGiven_9 (c_X3_size hI Rk Wk) ?_
      refine jr_icmp_geN (tgt := 66) hg dX7_looksOfOthersAtGiven_12 (by decide) (by omega) (by omega) (fun h12 => ?_) (fun h => by omega)
      refine jr_iload_n hg 1 rfl rfl dX7_looksOfOthersAtGiven_66 ?_
      exact jr_iret hg rfl dX7_looksOfOthersAtGiven_67 (⟨rfl, rfl⟩)
    · intro p hp ih 
      show mm_J g E mX7_looksOfOthersAtGiven (ret1 (.int (nI (zcnt (z_go2 s) (s 0 2)))) M) 4 [(0, .ref (E.1 7)), (1, .int (nI (zcnt (z_go2 s) p))), (2, .int (nI p))] [] (M)
      have hlo := Wk.2.1 p hp
      have f2 := Wl.2 _ hlo.1
      refine jr_iload_n hg 2 rfl rfl dX7_looksOfOthersAtGiven_4 ?_
      refine jr_aload_n hg 0 rfl rfl dX7_looksOfOthersAtGiven_5 ?_
      refine gf_X7_40 hg (hI 7 (by decide)) dX7_looksOfOthersAtGiven_6 ?_
      refine jr_cV0v hg lk_X7_109 (hI 3 (by decide)) rfl rfl (by decide) (by decide) (Nat.le_of_ble_eq_true rfl) dX7_looksOfOthersAtGiven_9 (c_X3_size hI Rk Wk) ?_
      refine jr_icmp_geN (tgt := 66) hg dX7_looksOfOthersAtGiven_12 (by decide) (by omega) (by omega) (fun h => by omega) (fun h12 => ?_)
      refine jr_iload_n hg 1 rfl rfl dX7_looksOfOthersAtGiven_15 ?_
      refine jr_aload_n hg 0 rfl rfl dX7_looksOfOthersAtGiven_16 ?_
      refine gf_X7_33 hg (hI 7 (by decide)) dX7_looksOfOthersAtGiven_17 ?_
      refine jr_aload_n hg 0 rfl rfl dX7_looksOfOthersAtGiven_20 ?_
      refine gf_X7_40 hg (hI 7 (by decide)) dX7_looksOfOthersAtGiven_21 ?_
      refine jr_iload_n hg 2 rfl rfl dX7_looksOfOthersAtGiven_24 ?_
      refine jr_cV1v hg lk_X7_163 (hI 3 (by decide)) rfl rfl (by decide) (by decide) (Nat.le_of_ble_eq_true rfl) dX7_looksOfOthersAtGiven_25 (c_X3_lookerOf hI Rk Wk (by omega)) ?_
      refine jr_cV1v hg lk_X7_261 (hI 2 (by decide)) rfl rfl (by decide) (by decide) (Nat.le_of_ble_eq_true rfl) dX7_looksOfOthersAtGiven_28 (c_X2_sortOf hI Rl Wl (by omega)) ?_
      refine jr_iconst hg (nI 4) dX7_looksOfOthersAtGiven_31 (by decide) ?_
      refine jr_icmp_eqN (tgt := 54) hg dX7_looksOfOthersAtGiven_32 (by decide) (by omega) (by omega) (fun h32 => ?_) (fun h32 => ?_)
      · refine jr_iconst hg (nI 0) dX7_looksOfOthersAtGiven_54 (by decide) ?_
        refine jr_cS1v hg lk_X7_131 (by decide) (by decide) (Nat.le_of_ble_eq_true rfl) dX7_looksOfOthersAtGiven_55 (c_X7_oneIf hI (by decide)) ?_
        refine jr_iaddN hg dX7_looksOfOthersAtGiven_58 ?_
        refine jr_istore_n hg dX7_looksOfOthersAtGiven_59 rfl (by decide) rfl ?_
        refine jr_iinc hg 2 rfl (nI (_ + 1)) (nI_1 _) dX7_looksOfOthersAtGiven_60 (by decide) rfl ?_
        refine jr_goto (tgt := 4) hg dX7_looksOfOthersAtGiven_63 (by decide) ?_
        have e : zcnt (z_go2 s) (p + 1) = zcnt (z_go2 s) p + 0 := by
          have q : (z_go2 s) p = false := by simp [z_go2, h32]
          rw [zcnt_s, q]; rfl
        rw [e] at ih
        exact jr_lv [2, 1, 0] rfl ih
      · refine jr_aload_n hg 0 rfl rfl dX7_looksOfOthersAtGiven_35 ?_
        refine jr_aload_n hg 0 rfl rfl dX7_looksOfOthersAtGiven_36 ?_
        refine gf_X7_40 hg (hI 7 (by decide)) dX7_looksOfOthersAtGiven_37 ?_
        refine jr_iload_n hg 2 rfl rfl dX7_looksOfOthersAtGiven_40 ?_
        refine jr_cV1v hg lk_X7_166 (hI 3 (by decide)) rfl rfl (by decide) (by decide) (Nat.le_of_ble_eq_true rfl) dX7_looksOfOthersAtGiven_41 (c_X3_pictureOf hI Rk Wk (by omega)) ?_
        refine jr_cV1v hg lk_X7_299 (hI 7 (by decide)) rfl rfl (by decide) (by decide) (Nat.le_of_ble_eq_true rfl) dX7_looksOfOthersAtGiven_44 (c_X7_isGiven hI ⟨Rp, Rl, Rk, Rw, Rt, Rd, Ro, Rq⟩ ⟨Wp, Wl, Wk, Ww, Wt, Wd, Wo, Wq⟩ hlo.2.1) ?_
        refine jr_if_eqZ (tgt := 54) hg dX7_looksOfOthersAtGiven_47 (by decide) (fun h47 => ?_) (fun h47 => ?_)
        · refine jr_iconst hg (nI 0) dX7_looksOfOthersAtGiven_54 (by decide) ?_
          refine jr_cS1v hg lk_X7_131 (by decide) (by decide) (Nat.le_of_ble_eq_true rfl) dX7_looksOfOthersAtGiven_55 (c_X7_oneIf hI (by decide)) ?_
          refine jr_iaddN hg dX7_looksOfOthersAtGiven_58 ?_
          refine jr_istore_n hg dX7_looksOfOthersAtGiven_59 rfl (by decide) rfl ?_
          refine jr_iinc hg 2 rfl (nI (_ + 1)) (nI_1 _) dX7_looksOfOthersAtGiven_60 (by decide) rfl ?_
          refine jr_goto (tgt := 4) hg dX7_looksOfOthersAtGiven_63 (by decide) ?_
          have e : zcnt (z_go2 s) (p + 1) = zcnt (z_go2 s) p + 0 := by
            have q : (z_go2 s) p = false := by simp [z_go2, h47]
            rw [zcnt_s, q]; rfl
          rw [e] at ih
          exact jr_lv [2, 1, 0] rfl ih
        · refine jr_iconst hg (nI 1) dX7_looksOfOthersAtGiven_50 (by decide) ?_
          refine jr_goto (tgt := 55) hg dX7_looksOfOthersAtGiven_51 (by decide) ?_
          refine jr_cS1v hg lk_X7_131 (by decide) (by decide) (Nat.le_of_ble_eq_true rfl) dX7_looksOfOthersAtGiven_55 (c_X7_oneIf hI (by decide)) ?_
          refine jr_iaddN hg dX7_looksOfOthersAtGiven_58 ?_
          refine jr_istore_n hg dX7_looksOfOthersAtGiven_59 rfl (by decide) rfl ?_
          refine jr_iinc hg 2 rfl (nI (_ + 1)) (nI_1 _) dX7_looksOfOthersAtGiven_60 (by decide) rfl ?_
          refine jr_goto (tgt := 4) hg dX7_looksOfOthersAtGiven_63 (by decide) ?_
          have e : zcnt (z_go2 s) (p + 1) = zcnt (z_go2 s) p + 1 := by
            have q : (z_go2 s) p = true := by simp [z_go2, h32, h47]
            rw [zcnt_s, q]; rfl
          rw [e] at ih
          exact jr_lv [2, 1, 0] rfl ih
  exact jr_lv [2, 1, 0] rfl (lp4 0 (by omega))

set_option maxRecDepth 100000 in
theorem c_X7_wronglyGivenPictures {E : mm_E} (hI : mm_FX E) {M : mm_M} {s : zS} (hR : zX s M) (hW : zW s) : mm_Cal E mX7_wronglyGivenPictures [.ref (E.1 7)] M (ret1 (.int (nI (zcnt (z_wg s) (s 0 0)))) M) := by
  obtain ⟨Rp, Rl, Rk, Rw, Rt, Rd, Ro, Rq⟩ := hR
  obtain ⟨Wp, Wl, Wk, Ww, Wt, Wd, Wo, Wq⟩ := hW
  have hnp := Wp.1
  have hnl := Wl.1
  have hnk := Wk.1
  refine jr_entry RX7 (by decide +kernel) (Nat.le_of_ble_eq_true rfl) (fun g hg => ?_)
  refine jr_lv (lv' := [(0, .ref (E.1 7))]) [0] rfl ?_
  refine jr_iconst hg (nI 0) dX7_wronglyGivenPictures_0 (by decide) ?_
  refine jr_istore_n hg dX7_wronglyGivenPictures_1 rfl (by decide) rfl ?_
  refine jr_iconst hg (nI 0) dX7_wronglyGivenPictures_2 (by decide) ?_
  refine jr_istore_n hg dX7_wronglyGivenPictures_3 rfl (by decide) rfl ?_
  have lp4 : ∀ p : Nat, p ≤ s 0 0 →  mm_J g E mX7_wronglyGivenPictures (ret1 (.int (nI (zcnt (z_wg s) (s 0 0)))) M) 4 [(0, .ref (E.1 7)), (1, .int (nI (zcnt (z_wg s) p))), (2, .int (nI p))] [] (M) := by
    refine jr_up (S := fun p =>  mm_J g E mX7_wronglyGivenPictures (ret1 (.int (nI (zcnt (z_wg s) (s 0 0)))) M) 4 [(0, .ref (E.1 7)), (1, .int (nI (zcnt (z_wg s) p))), (2, .int (nI p))] [] (M)) (n := s 0 0) ?_ ?_
    · show mm_J g E mX7_wronglyGivenPictures (ret1 (.int (nI (zcnt (z_wg s) (s 0 0)))) M) 4 [(0, .ref (E.1 7)), (1, .int (nI (zcnt (z_wg s) (s 0 0)))), (2, .int (nI (s 0 0)))] [] (M)
      refine jr_iload_n hg 2 rfl rfl dX7_wronglyGivenPictures_4 ?_
      refine jr_aload_n hg 0 rfl rfl dX7_wronglyGivenPictures_5 ?_
      refine gf_X7_26 hg (hI 7 (by decide)) dX7_wronglyGivenPictures_6 ?_
      refine jr_cV0v hg lk_X7_105 (hI 4 (by decide)) rfl rfl (by decide) (by decide) (Nat.le_of_ble_eq_true rfl) dX7_wronglyGivenPictures_9 (c_X4_size hI Rp Wp) ?_
      refine jr_icmp_geN (tgt := 78) hg dX7_wronglyGivenPictures_12 (by decide) (by omega) (by omega) (fun h12 => ?_) (fun h => by omega)
      refine jr_iload_n hg 1 rfl rfl dX7_wronglyGivenPictures_78 ?_
      exact jr_iret hg rfl dX7_wronglyGivenPictures_79 (⟨rfl, rfl⟩)
    · intro p hp ih 
      show mm_J g E mX7_wronglyGivenPictures (ret1 (.int (nI (zcnt (z_wg s) (s 0 0)))) M) 4 [(0, .ref (E.1 7)), (1, .int (nI (zcnt (z_wg s) p))), (2, .int (nI p))] [] (M)
      have f1 := (Wp.2 p hp).1
      refine jr_iload_n hg 2 rfl rfl dX7_wronglyGivenPictures_4 ?_
      refine jr_aload_n hg 0 rfl rfl dX7_wronglyGivenPictures_5 ?_
      refine gf_X7_26 hg (hI 7 (by decide)) dX7_wronglyGivenPictures_6 ?_
      refine jr_cV0v hg lk_X7_105 (hI 4 (by decide)) rfl rfl (by decide) (by decide) (Nat.le_of_ble_eq_true rfl) dX7_wronglyGivenPictures_9 (c_X4_size hI Rp Wp) ?_
      refine jr_icmp_geN (tgt := 78) hg dX7_wronglyGivenPictures_12 (by decide) (by omega) (by omega) (fun h => by omega) (fun h12 => ?_)
      refine jr_iconst hg (nI 0) dX7_wronglyGivenPictures_15 (by decide) ?_
      refine jr_istore_n hg dX7_wronglyGivenPictures_16 rfl (by decide) rfl ?_
      refine jr_iconst hg (nI 0) dX7_wronglyGivenPictures_17 (by decide) ?_
      refine jr_istore hg dX7_wronglyGivenPictures_18 (by decide) rfl ?_
      have lp20 : ∀ a : Nat, a ≤ 3 →  mm_J g E mX7_wronglyGivenPictures (ret1 (.int (nI (zcnt (z_wg s) (s 0 0)))) M) 20 [(0, .ref (E.1 7)), (1, .int (nI (zcnt (z_wg s) p))), (2, .int (nI p)), (3, .int (nI ((z_wa s p a).toNat))), (4, .int (nI a))] [] (M) := by
        refine jr_up (S := fun a =>  mm_J g E mX7_wronglyGivenPictures (ret1 (.int (nI (zcnt (z_wg s) (s 0 0)))) M) 20 [(0, .ref (E.1 7)), (1, .int (nI (zcnt (z_wg s) p))), (2, .int (nI p)), (3, .int (nI ((z_wa s p a).toNat))), (4, .int (nI a))] [] (M)) (n := 3) ?_ ?_
        · show mm_J g E mX7_wronglyGivenPictures (ret1 (.int (nI (zcnt (z_wg s) (s 0 0)))) M) 20 [(0, .ref (E.1 7)), (1, .int (nI (zcnt (z_wg s) p))), (2, .int (nI p)), (3, .int (nI ((z_wa s p (3)).toNat))), (4, .int (nI (3)))] [] (M)
          refine jr_iload hg 4 rfl dX7_wronglyGivenPictures_20 ?_
          refine jr_iconst hg (nI 2) dX7_wronglyGivenPictures_22 (by decide) ?_
          refine jr_icmp_gtN (tgt := 65) hg dX7_wronglyGivenPictures_23 (by decide) (by omega) (by omega) (fun h23 => ?_) (fun h => by omega)
          refine jr_iload_n hg 1 rfl rfl dX7_wronglyGivenPictures_65 ?_
          refine jr_iload_n hg 3 rfl rfl dX7_wronglyGivenPictures_66 ?_
          refine jr_cS1v hg lk_X7_131 (by decide) (by decide) (Nat.le_of_ble_eq_true rfl) dX7_wronglyGivenPictures_67 (c_X7_oneIf hI (Bool.toNat_le _)) ?_
          refine jr_iaddN hg dX7_wronglyGivenPictures_70 ?_
          refine jr_istore_n hg dX7_wronglyGivenPictures_71 rfl (by decide) rfl ?_
          refine jr_iinc hg 2 rfl (nI (_ + 1)) (nI_1 _) dX7_wronglyGivenPictures_72 (by decide) rfl ?_
          refine jr_goto (tgt := 4) hg dX7_wronglyGivenPictures_75 (by decide) ?_
          exact jr_lv [2, 1, 0] rfl ih
        · intro a ha ih2 
          show mm_J g E mX7_wronglyGivenPictures (ret1 (.int (nI (zcnt (z_wg s) (s 0 0)))) M) 20 [(0, .ref (E.1 7)), (1, .int (nI (zcnt (z_wg s) p))), (2, .int (nI p)), (3, .int (nI ((z_wa s p a).toNat))), (4, .int (nI a))] [] (M)
          refine jr_iload hg 4 rfl dX7_wronglyGivenPictures_20 ?_
          refine jr_iconst hg (nI 2) dX7_wronglyGivenPictures_22 (by decide) ?_
          refine jr_icmp_gtN (tgt := 65) hg dX7_wronglyGivenPictures_23 (by decide) (by omega) (by omega) (fun h => by omega) (fun h23 => ?_)
          refine jr_iload_n hg 3 rfl rfl dX7_wronglyGivenPictures_26 ?_
          refine jr_if_neZ (tgt := 53) hg dX7_wronglyGivenPictures_27 (by decide) (fun h27 => ?_) (fun h27 => ?_)
          · refine jr_iconst hg (nI 1) dX7_wronglyGivenPictures_53 (by decide) ?_
            refine jr_goto (tgt := 58) hg dX7_wronglyGivenPictures_54 (by decide) ?_
            refine jr_istore_n hg dX7_wronglyGivenPictures_58 rfl (by decide) rfl ?_
            refine jr_iinc hg 4 rfl (nI (_ + 1)) (nI_1 _) dX7_wronglyGivenPictures_59 (by decide) rfl ?_
            refine jr_goto (tgt := 20) hg dX7_wronglyGivenPictures_62 (by decide) ?_
            have e : z_wa s p (a + 1) = true := by rw [z_wa, h27]; rfl
            rw [e] at ih2
            exact jr_lv [2, 3, 4, 1, 0] rfl ih2
          · refine jr_iload hg 4 rfl dX7_wronglyGivenPictures_30 ?_
            refine jr_aload_n hg 0 rfl rfl dX7_wronglyGivenPictures_32 ?_
            refine gf_X7_26 hg (hI 7 (by decide)) dX7_wronglyGivenPictures_33 ?_
            refine jr_iload_n hg 2 rfl rfl dX7_wronglyGivenPictures_36 ?_
            refine jr_cV1v hg lk_X7_77 (hI 4 (by decide)) rfl rfl (by decide) (by decide) (Nat.le_of_ble_eq_true rfl) dX7_wronglyGivenPictures_37 (c_X4_kindOf hI Rp Wp (by omega)) ?_
            refine jr_icmp_eqN (tgt := 57) hg dX7_wronglyGivenPictures_40 (by decide) (by omega) (by omega) (fun h40 => ?_) (fun h40 => ?_)
            · refine jr_iconst hg (nI 0) dX7_wronglyGivenPictures_57 (by decide) ?_
              refine jr_istore_n hg dX7_wronglyGivenPictures_58 rfl (by decide) rfl ?_
              refine jr_iinc hg 4 rfl (nI (_ + 1)) (nI_1 _) dX7_wronglyGivenPictures_59 (by decide) rfl ?_
              refine jr_goto (tgt := 20) hg dX7_wronglyGivenPictures_62 (by decide) ?_
              have e : z_wa s p (a + 1) = false := by rw [z_wa, h27, h40]; simp
              rw [e] at ih2
              exact jr_lv [2, 3, 4, 1, 0] rfl ih2
            · refine jr_aload_n hg 0 rfl rfl dX7_wronglyGivenPictures_43 ?_
              refine jr_iload_n hg 2 rfl rfl dX7_wronglyGivenPictures_44 ?_
              refine jr_iload hg 4 rfl dX7_wronglyGivenPictures_45 ?_
              refine jr_cV2v hg lk_X7_296 (hI 7 (by decide)) rfl rfl (by decide) (by decide) (Nat.le_of_ble_eq_true rfl) dX7_wronglyGivenPictures_47 (c_X7_isGivenAs hI ⟨Rp, Rl, Rk, Rw, Rt, Rd, Ro, Rq⟩ ⟨Wp, Wl, Wk, Ww, Wt, Wd, Wo, Wq⟩ hp (by omega)) ?_
              refine jr_if_eqZ (tgt := 57) hg dX7_wronglyGivenPictures_50 (by decide) (fun h50 => ?_) (fun h50 => ?_)
              · refine jr_iconst hg (nI 0) dX7_wronglyGivenPictures_57 (by decide) ?_
                refine jr_istore_n hg dX7_wronglyGivenPictures_58 rfl (by decide) rfl ?_
                refine jr_iinc hg 4 rfl (nI (_ + 1)) (nI_1 _) dX7_wronglyGivenPictures_59 (by decide) rfl ?_
                refine jr_goto (tgt := 20) hg dX7_wronglyGivenPictures_62 (by decide) ?_
                have e : z_wa s p (a + 1) = false := by rw [z_wa, h27, h50]; simp
                rw [e] at ih2
                exact jr_lv [2, 3, 4, 1, 0] rfl ih2
              · refine jr_iconst hg (nI 1) dX7_wronglyGivenPictures_53 (by decide) ?_
                refine jr_goto (tgt := 58) hg dX7_wronglyGivenPictures_54 (by decide) ?_
                refine jr_istore_n hg dX7_wronglyGivenPictures_58 rfl (by decide) rfl ?_
                refine jr_iinc hg 4 rfl (nI (_ + 1)) (nI_1 _) dX7_wronglyGivenPictures_59 (by decide) rfl ?_
                refine jr_goto (tgt := 20) hg dX7_wronglyGivenPictures_62 (by decide) ?_
                have e : z_wa s p (a + 1) = true := by rw [z_wa, h27, h50]; simp [h40]
                rw [e] at ih2
                exact jr_lv [2, 3, 4, 1, 0] rfl ih2
      exact jr_lv [2, 3, 4, 1, 0] rfl (lp20 0 (by omega))
  exact jr_lv [2, 1, 0] rfl (lp4 0 (by omega))
