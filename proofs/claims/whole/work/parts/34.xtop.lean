def z_dn (s : zS) (p : Nat) : Bool := decide (10 * s 10 4 ≤ z_go s p ∨ s 10 5 ≤ zcnt (z_of s p) (s 0 2))
def z_sb (s : zS) (p q r : Nat) : Bool := if zcnt (z_of s p) (s 0 2) = zcnt (z_of s q) (s 0 2) then (if r = 1 then decide (z_go s p < z_go s q) else decide (r = 2 ∧ s 3 q < s 3 p)) else decide (zcnt (z_of s p) (s 0 2) < zcnt (z_of s q) (s 0 2))
def z_nx (s : zS) (l r : Nat) : Nat → Nat
  | 0 => 0
  | p + 1 => if (!z_dn s p && z_an s l p == 0) && (z_nx s l r p == 0 || z_sb s p (z_nx s l r p - 1) r) then p + 1 else z_nx s l r p
theorem z_nx_le (s : zS) (l r p : Nat) : z_nx s l r p ≤ p := by
  induction p with
  | zero => exact Nat.le_refl _
  | succ p ih => rw [z_nx]; split <;> omega
def z_sg (s : zS) (l P : Nat) : Nat → Nat → Bool
  | 0, n => decide (n < P)
  | k + 1, n => if n < P then (if s 7 k = l then (if s 2 (s 8 k) = 1 then z_sg s l P k (n + 1) else true) else z_sg s l P k n) else false
def z_st (s : zS) (l : Nat) : Bool := z_sg s l (s 10 6) (s 0 2) 0
def z_eye (s : zS) (l p : Nat) : Nat := if s 6 l = 4 then (if s 3 p ≤ 4 then 100 else 34) else if s 6 l = 2 then (if s 2 p = 1 then s 10 1 else s 10 0) - s 10 3 * zcnt (z_by s l) (s 0 2) else if s 2 p = 1 then s 10 1 else s 10 0
def z_seen (s : zS) (p e d : Nat) : Nat × Nat := if z_dv (z_sd d) < e then (s 1 p, z_sd d) else if s 2 p = 1 then (0, z_sd d) else (z_dv (z_sd (z_sd d)) % 3, z_sd (z_sd d))
def z_said (s : zS) (l p d : Nat) : Nat × Nat := if s 6 l = 5 ∧ 8 ≤ s 3 p then (3, d) else if s 6 l = 3 then (z_dv (z_sd d) % 3, z_sd d) else
  if s 6 l = 1 ∧ (z_seen s p (z_eye s l p) d).1 = 2 then (if z_dv (z_sd (z_seen s p (z_eye s l p) d).2) < s 10 2 then 1 else 2, z_sd (z_seen s p (z_eye s l p) d).2) else z_seen s p (z_eye s l p) d
theorem z_seen_le {s : zS} (h : zW_p s) {p e d : Nat} (hp : p < s 0 0) (hd : d < 2 ^ 31) : (z_seen s p e d).1 ≤ 2 ∧ (z_seen s p e d).2 < 2 ^ 31 := by
  have h1 := (h.2 p hp).1
  have h2 := z_sd_lt d
  have h3 := z_sd_lt (z_sd d)
  have h4 := Nat.mod_lt (z_dv (z_sd (z_sd d))) (show 0 < 3 by decide)
  rw [z_seen]; split
  · exact ⟨h1, h2⟩
  · split
    · exact ⟨Nat.zero_le _, h2⟩
    · exact ⟨by show _ % 3 ≤ 2; omega, h3⟩
theorem z_said_le {s : zS} (h : zW_p s) {l p d : Nat} (hp : p < s 0 0) (hd : d < 2 ^ 31) : (z_said s l p d).1 ≤ 3 ∧ (z_said s l p d).2 < 2 ^ 31 := by
  have h1 := z_seen_le h (e := z_eye s l p) hp hd
  have h2 := z_sd_lt d
  have h3 := z_sd_lt (z_seen s p (z_eye s l p) d).2
  have h4 := Nat.mod_lt (z_dv (z_sd d)) (show 0 < 3 by decide)
  rw [z_said]; split
  · exact ⟨Nat.le_refl 3, hd⟩
  · split
    · exact ⟨by show _ % 3 ≤ 3; omega, h2⟩
    · split
      · refine ⟨?_, h3⟩
        show (if _ then 1 else 2) ≤ 3
        split <;> decide
      · exact ⟨by omega, h1.2⟩
theorem z_eye_le {s : zS} (h : zW_w s) (l p : Nat) : z_eye s l p ≤ 100 := by
  have a := zW_w100 h 0 (by decide)
  have b := zW_w100 h 1 (by decide)
  rw [z_eye]
  split
  · split <;> omega
  · split
    · split <;> omega
    · split <;> omega

set_option maxRecDepth 100000 in
theorem c_X7_isDone {E : mm_E} (hI : mm_FX E) {M : mm_M} {s : zS} (hR : zX s M) (hW : zW s) {p : Nat} (hp : p < s 0 0) : mm_Cal E mX7_isDone [.ref (E.1 7), .int (nI p)] M (ret1 (.int (nI (z_dn s p).toNat)) M) := by
  obtain ⟨Rp, Rl, Rk, Rw, Rt, Rd, Ro, Rq⟩ := hR
  obtain ⟨Wp, Wl, Wk, Ww, Wt, Wd, Wo, Wq⟩ := hW
  have hnp := Wp.1
  have hnl := Wl.1
  have hnk := Wk.1
  have g1 := z_go_le Wo (p := p) (by omega)
  have g2 := zcnt_le (z_of s p) (s 0 2)
  have g3 := zW_w100 Ww 4 (by decide)
  have g4 := zW_w100 Ww 5 (by decide)
  refine jr_entry RX7 (by decide +kernel) (Nat.le_of_ble_eq_true rfl) (fun g hg => ?_)
  refine jr_lv (lv' := [(0, .ref (E.1 7)), (1, .int (nI p))]) [0, 1] rfl ?_
  refine jr_aload_n hg 0 rfl rfl dX7_isDone_0 ?_
  refine gf_X7_47 hg (hI 7 (by decide)) dX7_isDone_1 ?_
  refine jr_iload_n hg 1 rfl rfl dX7_isDone_4 ?_
  refine jr_cV1v hg lk_X7_284 (hI 6 (by decide)) rfl rfl (by decide) (by decide) (Nat.le_of_ble_eq_true rfl) dX7_isDone_5 (c_X6_greatestOddsOf hI Ro Wo (by omega)) ?_
  refine jr_aload_n hg 0 rfl rfl dX7_isDone_8 ?_
  refine gf_X7_10 hg (hI 7 (by decide)) dX7_isDone_9 ?_
  refine jr_iconst hg (nI 4) dX7_isDone_12 (by decide) ?_
  refine jr_cV1v hg lk_X7_102 (hI 1 (by decide)) rfl rfl (by decide) (by decide) (Nat.le_of_ble_eq_true rfl) dX7_isDone_13 (c_X1_valueOf hI Rw (by decide)) ?_
  refine jr_bipush hg (nI 10) dX7_isDone_16 (by decide) ?_
  refine jr_imulN hg dX7_isDone_18 ?_
  refine jr_icmp_geN (tgt := 41) hg dX7_isDone_19 (by decide) (by omega) (by omega) (fun h19 => ?_) (fun h19 => ?_)
  · refine jr_iconst hg (nI 1) dX7_isDone_41 (by decide) ?_
    refine jr_goto (tgt := 46) hg dX7_isDone_42 (by decide) ?_
    exact jr_zret hg rfl (by first | exact Or.inl rfl | exact Or.inr rfl | exact z01 _) dX7_isDone_46 (⟨by rw [z_dn, decide_eq_true (Or.inl (by omega))]; rfl, rfl⟩)
  · refine jr_aload_n hg 0 rfl rfl dX7_isDone_22 ?_
    refine gf_X7_40 hg (hI 7 (by decide)) dX7_isDone_23 ?_
    refine jr_iload_n hg 1 rfl rfl dX7_isDone_26 ?_
    refine jr_cV1v hg lk_X7_135 (hI 3 (by decide)) rfl rfl (by decide) (by decide) (Nat.le_of_ble_eq_true rfl) dX7_isDone_27 (c_X3_howManyAt hI Rk Wk (by omega)) ?_
    refine jr_aload_n hg 0 rfl rfl dX7_isDone_30 ?_
    refine gf_X7_10 hg (hI 7 (by decide)) dX7_isDone_31 ?_
    refine jr_iconst hg (nI 5) dX7_isDone_34 (by decide) ?_
    refine jr_cV1v hg lk_X7_102 (hI 1 (by decide)) rfl rfl (by decide) (by decide) (Nat.le_of_ble_eq_true rfl) dX7_isDone_35 (c_X1_valueOf hI Rw (by decide)) ?_
    refine jr_icmp_ltN (tgt := 45) hg dX7_isDone_38 (by decide) (by omega) (by omega) (fun h38 => ?_) (fun h38 => ?_)
    · refine jr_iconst hg (nI 0) dX7_isDone_45 (by decide) ?_
      exact jr_zret hg rfl (by first | exact Or.inl rfl | exact Or.inr rfl | exact z01 _) dX7_isDone_46 (⟨by rw [z_dn, decide_eq_false (by omega)]; rfl, rfl⟩)
    · refine jr_iconst hg (nI 1) dX7_isDone_41 (by decide) ?_
      refine jr_goto (tgt := 46) hg dX7_isDone_42 (by decide) ?_
      exact jr_zret hg rfl (by first | exact Or.inl rfl | exact Or.inr rfl | exact z01 _) dX7_isDone_46 (⟨by rw [z_dn, decide_eq_true (Or.inr (by omega))]; rfl, rfl⟩)

set_option maxRecDepth 100000 in
theorem c_X7_doneOnes {E : mm_E} (hI : mm_FX E) {M : mm_M} {s : zS} (hR : zX s M) (hW : zW s) : mm_Cal E mX7_doneOnes [.ref (E.1 7)] M (ret1 (.int (nI (zcnt (z_dn s) (s 0 0)))) M) := by
  obtain ⟨Rp, Rl, Rk, Rw, Rt, Rd, Ro, Rq⟩ := hR
  obtain ⟨Wp, Wl, Wk, Ww, Wt, Wd, Wo, Wq⟩ := hW
  have hnp := Wp.1
  have hnl := Wl.1
  have hnk := Wk.1
  refine jr_entry RX7 (by decide +kernel) (Nat.le_of_ble_eq_true rfl) (fun g hg => ?_)
  refine jr_lv (lv' := [(0, .ref (E.1 7))]) [0] rfl ?_
  refine jr_iconst hg (nI 0) dX7_doneOnes_0 (by decide) ?_
  refine jr_istore_n hg dX7_doneOnes_1 rfl (by decide) rfl ?_
  refine jr_iconst hg (nI 0) dX7_doneOnes_2 (by decide) ?_
  refine jr_istore_n hg dX7_doneOnes_3 rfl (by decide) rfl ?_
  have lp4 : ∀ p : Nat, p ≤ s 0 0 →  mm_J g E mX7_doneOnes (ret1 (.int (nI (zcnt (z_dn s) (s 0 0)))) M) 4 [(0, .ref (E.1 7)), (1, .int (nI (zcnt (z_dn s) p))), (2, .int (nI p))] [] (M) := by
    refine jr_up (S := fun p =>  mm_J g E mX7_doneOnes (ret1 (.int (nI (zcnt (z_dn s) (s 0 0)))) M) 4 [(0, .ref (E.1 7)), (1, .int (nI (zcnt (z_dn s) p))), (2, .int (nI p))] [] (M)) (n := s 0 0) ?_ ?_
    · show mm_J g E mX7_doneOnes (ret1 (.int (nI (zcnt (z_dn s) (s 0 0)))) M) 4 [(0, .ref (E.1 7)), (1, .int (nI (zcnt (z_dn s) (s 0 0)))), (2, .int (nI (s 0 0)))] [] (M)
      refine jr_iload_n hg 2 rfl rfl dX7_doneOnes_4 ?_
      refine jr_aload_n hg 0 rfl rfl dX7_doneOnes_5 ?_
      refine gf_X7_26 hg (hI 7 (by decide)) dX7_doneOnes_6 ?_
      refine jr_cV0v hg lk_X7_105 (hI 4 (by decide)) rfl rfl (by decide) (by decide) (Nat.le_of_ble_eq_true rfl) dX7_doneOnes_9 (c_X4_size hI Rp Wp) ?_
      refine jr_icmp_geN (tgt := 32) hg dX7_doneOnes_12 (by decide) (by omega) (by omega) (fun h12 => ?_) (fun h => by omega)
      refine jr_iload_n hg 1 rfl rfl dX7_doneOnes_32 ?_
      exact jr_iret hg rfl dX7_doneOnes_33 (⟨rfl, rfl⟩)
    · intro p hp ih 
      show mm_J g E mX7_doneOnes (ret1 (.int (nI (zcnt (z_dn s) (s 0 0)))) M) 4 [(0, .ref (E.1 7)), (1, .int (nI (zcnt (z_dn s) p))), (2, .int (nI p))] [] (M)
      refine jr_iload_n hg 2 rfl rfl dX7_doneOnes_4 ?_
      refine jr_aload_n hg 0 rfl rfl dX7_doneOnes_5 ?_
      refine gf_X7_26 hg (hI 7 (by decide)) dX7_doneOnes_6 ?_
      refine jr_cV0v hg lk_X7_105 (hI 4 (by decide)) rfl rfl (by decide) (by decide) (Nat.le_of_ble_eq_true rfl) dX7_doneOnes_9 (c_X4_size hI Rp Wp) ?_
      refine jr_icmp_geN (tgt := 32) hg dX7_doneOnes_12 (by decide) (by omega) (by omega) (fun h => by omega) (fun h12 => ?_)
      refine jr_iload_n hg 1 rfl rfl dX7_doneOnes_15 ?_
      refine jr_aload_n hg 0 rfl rfl dX7_doneOnes_16 ?_
      refine jr_iload_n hg 2 rfl rfl dX7_doneOnes_17 ?_
      refine jr_cV1v hg lk_X7_141 (hI 7 (by decide)) rfl rfl (by decide) (by decide) (Nat.le_of_ble_eq_true rfl) dX7_doneOnes_18 (c_X7_isDone hI ⟨Rp, Rl, Rk, Rw, Rt, Rd, Ro, Rq⟩ ⟨Wp, Wl, Wk, Ww, Wt, Wd, Wo, Wq⟩ hp) ?_
      refine jr_cS1v hg lk_X7_131 (by decide) (by decide) (Nat.le_of_ble_eq_true rfl) dX7_doneOnes_21 (c_X7_oneIf hI (Bool.toNat_le _)) ?_
      refine jr_iaddN hg dX7_doneOnes_24 ?_
      refine jr_istore_n hg dX7_doneOnes_25 rfl (by decide) rfl ?_
      refine jr_iinc hg 2 rfl (nI (_ + 1)) (nI_1 _) dX7_doneOnes_26 (by decide) rfl ?_
      refine jr_goto (tgt := 4) hg dX7_doneOnes_29 (by decide) ?_
      exact jr_lv [2, 1, 0] rfl ih
  exact jr_lv [2, 1, 0] rfl (lp4 0 (by omega))

set_option maxRecDepth 100000 in
theorem c_X7_isShownBefore {E : mm_E} (hI : mm_FX E) {M : mm_M} {s : zS} (hR : zX s M) (hW : zW s) {p : Nat} (hp : p < s 0 0) {q r : Nat} (hq : q < s 0 0) (hr : r ≤ 2) : mm_Cal E mX7_isShownBefore [.ref (E.1 7), .int (nI p), .int (nI q), .int (nI r)] M (ret1 (.int (nI (z_sb s p q r).toNat)) M) := by
  obtain ⟨Rp, Rl, Rk, Rw, Rt, Rd, Ro, Rq⟩ := hR
  obtain ⟨Wp, Wl, Wk, Ww, Wt, Wd, Wo, Wq⟩ := hW
  have hnp := Wp.1
  have hnl := Wl.1
  have hnk := Wk.1
  have g1 := z_go_le Wo (p := p) (by omega)
  have g2 := zcnt_le (z_of s p) (s 0 2)
  have g3 := z_go_le Wo (p := q) (by omega)
  have g4 := zcnt_le (z_of s q) (s 0 2)
  have d1 := (Wp.2 p hp).2.2.1
  have d2 := (Wp.2 q hq).2.2.1
  refine jr_entry RX7 (by decide +kernel) (Nat.le_of_ble_eq_true rfl) (fun g hg => ?_)
  refine jr_lv (lv' := [(0, .ref (E.1 7)), (1, .int (nI p)), (2, .int (nI q)), (3, .int (nI r))]) [0, 1, 2, 3] rfl ?_
  refine jr_aload_n hg 0 rfl rfl dX7_isShownBefore_0 ?_
  refine gf_X7_40 hg (hI 7 (by decide)) dX7_isShownBefore_1 ?_
  refine jr_iload_n hg 1 rfl rfl dX7_isShownBefore_4 ?_
  refine jr_cV1v hg lk_X7_135 (hI 3 (by decide)) rfl rfl (by decide) (by decide) (Nat.le_of_ble_eq_true rfl) dX7_isShownBefore_5 (c_X3_howManyAt hI Rk Wk (by omega)) ?_
  refine jr_aload_n hg 0 rfl rfl dX7_isShownBefore_8 ?_
  refine gf_X7_40 hg (hI 7 (by decide)) dX7_isShownBefore_9 ?_
  refine jr_iload_n hg 2 rfl rfl dX7_isShownBefore_12 ?_
  refine jr_cV1v hg lk_X7_135 (hI 3 (by decide)) rfl rfl (by decide) (by decide) (Nat.le_of_ble_eq_true rfl) dX7_isShownBefore_13 (c_X3_howManyAt hI Rk Wk (by omega)) ?_
  refine jr_icmp_eqN (tgt := 44) hg dX7_isShownBefore_16 (by decide) (by omega) (by omega) (fun h16 => ?_) (fun h16 => ?_)
  · refine jr_iload_n hg 3 rfl rfl dX7_isShownBefore_44 ?_
    refine jr_iconst hg (nI 1) dX7_isShownBefore_45 (by decide) ?_
    refine jr_icmp_neN (tgt := 74) hg dX7_isShownBefore_46 (by decide) (by omega) (by omega) (fun h46 => ?_) (fun h46 => ?_)
    · refine jr_iload_n hg 3 rfl rfl dX7_isShownBefore_74 ?_
      refine jr_iconst hg (nI 2) dX7_isShownBefore_75 (by decide) ?_
      refine jr_icmp_neN (tgt := 102) hg dX7_isShownBefore_76 (by decide) (by omega) (by omega) (fun h76 => ?_) (fun h76 => ?_)
      · refine jr_iconst hg (nI 0) dX7_isShownBefore_102 (by decide) ?_
        exact jr_zret hg rfl (by first | exact Or.inl rfl | exact Or.inr rfl | exact z01 _) dX7_isShownBefore_103 (⟨by rw [z_sb, if_pos h16, if_neg h46, decide_eq_false (by omega)]; rfl, rfl⟩)
      · refine jr_aload_n hg 0 rfl rfl dX7_isShownBefore_79 ?_
        refine gf_X7_26 hg (hI 7 (by decide)) dX7_isShownBefore_80 ?_
        refine jr_iload_n hg 1 rfl rfl dX7_isShownBefore_83 ?_
        refine jr_cV1v hg lk_X7_86 (hI 4 (by decide)) rfl rfl (by decide) (by decide) (Nat.le_of_ble_eq_true rfl) dX7_isShownBefore_84 (c_X4_depthOf hI Rp Wp (by omega)) ?_
        refine jr_aload_n hg 0 rfl rfl dX7_isShownBefore_87 ?_
        refine gf_X7_26 hg (hI 7 (by decide)) dX7_isShownBefore_88 ?_
        refine jr_iload_n hg 2 rfl rfl dX7_isShownBefore_91 ?_
        refine jr_cV1v hg lk_X7_86 (hI 4 (by decide)) rfl rfl (by decide) (by decide) (Nat.le_of_ble_eq_true rfl) dX7_isShownBefore_92 (c_X4_depthOf hI Rp Wp (by omega)) ?_
        refine jr_icmp_leN (tgt := 102) hg dX7_isShownBefore_95 (by decide) (by omega) (by omega) (fun h95 => ?_) (fun h95 => ?_)
        · refine jr_iconst hg (nI 0) dX7_isShownBefore_102 (by decide) ?_
          exact jr_zret hg rfl (by first | exact Or.inl rfl | exact Or.inr rfl | exact z01 _) dX7_isShownBefore_103 (⟨by rw [z_sb, if_pos h16, if_neg h46, decide_eq_false (by omega)]; rfl, rfl⟩)
        · refine jr_iconst hg (nI 1) dX7_isShownBefore_98 (by decide) ?_
          refine jr_goto (tgt := 103) hg dX7_isShownBefore_99 (by decide) ?_
          exact jr_zret hg rfl (by first | exact Or.inl rfl | exact Or.inr rfl | exact z01 _) dX7_isShownBefore_103 (⟨by rw [z_sb, if_pos h16, if_neg h46, decide_eq_true (by omega)]; rfl, rfl⟩)
    · refine jr_aload_n hg 0 rfl rfl dX7_isShownBefore_49 ?_
      refine gf_X7_47 hg (hI 7 (by decide)) dX7_isShownBefore_50 ?_
      refine jr_iload_n hg 1 rfl rfl dX7_isShownBefore_53 ?_
      refine jr_cV1v hg lk_X7_284 (hI 6 (by decide)) rfl rfl (by decide) (by decide) (Nat.le_of_ble_eq_true rfl) dX7_isShownBefore_54 (c_X6_greatestOddsOf hI Ro Wo (by omega)) ?_
      refine jr_aload_n hg 0 rfl rfl dX7_isShownBefore_57 ?_
      refine gf_X7_47 hg (hI 7 (by decide)) dX7_isShownBefore_58 ?_
      refine jr_iload_n hg 2 rfl rfl dX7_isShownBefore_61 ?_
      refine jr_cV1v hg lk_X7_284 (hI 6 (by decide)) rfl rfl (by decide) (by decide) (Nat.le_of_ble_eq_true rfl) dX7_isShownBefore_62 (c_X6_greatestOddsOf hI Ro Wo (by omega)) ?_
      refine jr_icmp_geN (tgt := 72) hg dX7_isShownBefore_65 (by decide) (by omega) (by omega) (fun h65 => ?_) (fun h65 => ?_)
      · refine jr_iconst hg (nI 0) dX7_isShownBefore_72 (by decide) ?_
        exact jr_zret hg rfl (by first | exact Or.inl rfl | exact Or.inr rfl | exact z01 _) dX7_isShownBefore_73 (⟨by rw [z_sb, if_pos h16, if_pos h46, decide_eq_false (by omega)]; rfl, rfl⟩)
      · refine jr_iconst hg (nI 1) dX7_isShownBefore_68 (by decide) ?_
        refine jr_goto (tgt := 73) hg dX7_isShownBefore_69 (by decide) ?_
        exact jr_zret hg rfl (by first | exact Or.inl rfl | exact Or.inr rfl | exact z01 _) dX7_isShownBefore_73 (⟨by rw [z_sb, if_pos h16, if_pos h46, decide_eq_true (by omega)]; rfl, rfl⟩)
  · refine jr_aload_n hg 0 rfl rfl dX7_isShownBefore_19 ?_
    refine gf_X7_40 hg (hI 7 (by decide)) dX7_isShownBefore_20 ?_
    refine jr_iload_n hg 1 rfl rfl dX7_isShownBefore_23 ?_
    refine jr_cV1v hg lk_X7_135 (hI 3 (by decide)) rfl rfl (by decide) (by decide) (Nat.le_of_ble_eq_true rfl) dX7_isShownBefore_24 (c_X3_howManyAt hI Rk Wk (by omega)) ?_
    refine jr_aload_n hg 0 rfl rfl dX7_isShownBefore_27 ?_
    refine gf_X7_40 hg (hI 7 (by decide)) dX7_isShownBefore_28 ?_
    refine jr_iload_n hg 2 rfl rfl dX7_isShownBefore_31 ?_
    refine jr_cV1v hg lk_X7_135 (hI 3 (by decide)) rfl rfl (by decide) (by decide) (Nat.le_of_ble_eq_true rfl) dX7_isShownBefore_32 (c_X3_howManyAt hI Rk Wk (by omega)) ?_
    refine jr_icmp_geN (tgt := 42) hg dX7_isShownBefore_35 (by decide) (by omega) (by omega) (fun h35 => ?_) (fun h35 => ?_)
    · refine jr_iconst hg (nI 0) dX7_isShownBefore_42 (by decide) ?_
      exact jr_zret hg rfl (by first | exact Or.inl rfl | exact Or.inr rfl | exact z01 _) dX7_isShownBefore_43 (⟨by rw [z_sb, if_neg h16, decide_eq_false (by omega)]; rfl, rfl⟩)
    · refine jr_iconst hg (nI 1) dX7_isShownBefore_38 (by decide) ?_
      refine jr_goto (tgt := 43) hg dX7_isShownBefore_39 (by decide) ?_
      exact jr_zret hg rfl (by first | exact Or.inl rfl | exact Or.inr rfl | exact z01 _) dX7_isShownBefore_43 (⟨by rw [z_sb, if_neg h16, decide_eq_true (by omega)]; rfl, rfl⟩)

set_option maxRecDepth 100000 in
theorem c_X7_shownNext {E : mm_E} (hI : mm_FX E) {M : mm_M} {s : zS} (hR : zX s M) (hW : zW s) {l : Nat} (hl : l < s 0 1) {r : Nat} (hr : r ≤ 2) : mm_Cal E mX7_shownNext [.ref (E.1 7), .int (nI l), .int (nI r)] M (ret1 (.int (zmv (z_nx s l r (s 0 0)))) M) := by
  obtain ⟨Rp, Rl, Rk, Rw, Rt, Rd, Ro, Rq⟩ := hR
  obtain ⟨Wp, Wl, Wk, Ww, Wt, Wd, Wo, Wq⟩ := hW
  have hnp := Wp.1
  have hnl := Wl.1
  have hnk := Wk.1
  refine jr_entry RX7 (by decide +kernel) (Nat.le_of_ble_eq_true rfl) (fun g hg => ?_)
  refine jr_lv (lv' := [(0, .ref (E.1 7)), (1, .int (nI l)), (2, .int (nI r))]) [0, 1, 2] rfl ?_
  refine jr_iconst hg (-1) dX7_shownNext_0 (by decide) ?_
  refine jr_istore_n hg dX7_shownNext_1 rfl (by decide) rfl ?_
  refine jr_iconst hg (nI 0) dX7_shownNext_2 (by decide) ?_
  refine jr_istore hg dX7_shownNext_3 (by decide) rfl ?_
  have lp5 : ∀ p : Nat, p ≤ s 0 0 →  mm_J g E mX7_shownNext (ret1 (.int (zmv (z_nx s l r (s 0 0)))) M) 5 [(0, .ref (E.1 7)), (1, .int (nI l)), (2, .int (nI r)), (3, .int (zmv (z_nx s l r p))), (4, .int (nI p))] [] (M) := by
    refine jr_up (S := fun p =>  mm_J g E mX7_shownNext (ret1 (.int (zmv (z_nx s l r (s 0 0)))) M) 5 [(0, .ref (E.1 7)), (1, .int (nI l)), (2, .int (nI r)), (3, .int (zmv (z_nx s l r p))), (4, .int (nI p))] [] (M)) (n := s 0 0) ?_ ?_
    · show mm_J g E mX7_shownNext (ret1 (.int (zmv (z_nx s l r (s 0 0)))) M) 5 [(0, .ref (E.1 7)), (1, .int (nI l)), (2, .int (nI r)), (3, .int (zmv (z_nx s l r (s 0 0)))), (4, .int (nI (s 0 0)))] [] (M)
      refine jr_iload hg 4 rfl dX7_shownNext_5 ?_
      refine jr_aload_n hg 0 rfl rfl dX7_shownNext_7 ?_
      refine gf_X7_26 hg (hI 7 (by decide)) dX7_shownNext_8 ?_
      refine jr_cV0v hg lk_X7_105 (hI 4 (by decide)) rfl rfl (by decide) (by decide) (Nat.le_of_ble_eq_true rfl) dX7_shownNext_11 (c_X4_size hI Rp Wp) ?_
      refine jr_icmp_geN (tgt := 77) hg dX7_shownNext_14 (by decide) (by omega) (by omega) (fun h14 => ?_) (fun h => by omega)
      refine jr_iload_n hg 3 rfl rfl dX7_shownNext_77 ?_
      exact jr_iret hg rfl dX7_shownNext_78 (⟨rfl, rfl⟩)
    · intro p hp ih 
      show mm_J g E mX7_shownNext (ret1 (.int (zmv (z_nx s l r (s 0 0)))) M) 5 [(0, .ref (E.1 7)), (1, .int (nI l)), (2, .int (nI r)), (3, .int (zmv (z_nx s l r p))), (4, .int (nI p))] [] (M)
      refine jr_iload hg 4 rfl dX7_shownNext_5 ?_
      refine jr_aload_n hg 0 rfl rfl dX7_shownNext_7 ?_
      refine gf_X7_26 hg (hI 7 (by decide)) dX7_shownNext_8 ?_
      refine jr_cV0v hg lk_X7_105 (hI 4 (by decide)) rfl rfl (by decide) (by decide) (Nat.le_of_ble_eq_true rfl) dX7_shownNext_11 (c_X4_size hI Rp Wp) ?_
      refine jr_icmp_geN (tgt := 77) hg dX7_shownNext_14 (by decide) (by omega) (by omega) (fun h => by omega) (fun h14 => ?_)
      refine jr_aload_n hg 0 rfl rfl dX7_shownNext_17 ?_
      refine jr_iload hg 4 rfl dX7_shownNext_18 ?_
      refine jr_cV1v hg lk_X7_141 (hI 7 (by decide)) rfl rfl (by decide) (by decide) (Nat.le_of_ble_eq_true rfl) dX7_shownNext_20 (c_X7_isDone hI ⟨Rp, Rl, Rk, Rw, Rt, Rd, Ro, Rq⟩ ⟨Wp, Wl, Wk, Ww, Wt, Wd, Wo, Wq⟩ hp) ?_
      refine jr_if_neZ (tgt := 44) hg dX7_shownNext_23 (by decide) (fun h23 => ?_) (fun h23 => ?_)
      · refine jr_iconst hg (nI 0) dX7_shownNext_44 (by decide) ?_
        refine jr_istore hg dX7_shownNext_45 (by decide) rfl ?_
        refine jr_iload hg 0 rfl dX7_shownNext_47 ?_
        refine jr_if_eqN (tgt := 71) hg dX7_shownNext_49 (by decide) (by omega) (fun h49 => ?_) (fun h => by omega)
        refine jr_iinc hg 5 rfl (nI (_ + 1)) (nI_1 _) dX7_shownNext_71 (by decide) rfl ?_
        refine jr_goto (tgt := 5) hg dX7_shownNext_74 (by decide) ?_
        have e : z_nx s l r (p + 1) = z_nx s l r p := by rw [z_nx, h23]; rfl
        rw [e] at ih
        exact jr_lv [2, 3, 4, 5, 0] rfl ih
      · refine jr_aload_n hg 0 rfl rfl dX7_shownNext_26 ?_
        refine gf_X7_40 hg (hI 7 (by decide)) dX7_shownNext_27 ?_
        refine jr_iload_n hg 1 rfl rfl dX7_shownNext_30 ?_
        refine jr_iload hg 4 rfl dX7_shownNext_31 ?_
        refine jr_cV2v hg lk_X7_148 (hI 3 (by decide)) rfl rfl (by decide) (by decide) (Nat.le_of_ble_eq_true rfl) dX7_shownNext_33 (c_X3_answerAt hI Rk Wk (by omega) (by omega)) ?_
        refine jr_iconst hg (-1) dX7_shownNext_36 (by decide) ?_
        refine jr_icmp_ne (tgt := 44) hg dX7_shownNext_37 (by decide) (fun h37 => ?_) (fun h37 => ?_)
        · refine jr_iconst hg (nI 0) dX7_shownNext_44 (by decide) ?_
          refine jr_istore hg dX7_shownNext_45 (by decide) rfl ?_
          refine jr_iload hg 0 rfl dX7_shownNext_47 ?_
          refine jr_if_eqN (tgt := 71) hg dX7_shownNext_49 (by decide) (by omega) (fun h49 => ?_) (fun h => by omega)
          refine jr_iinc hg 5 rfl (nI (_ + 1)) (nI_1 _) dX7_shownNext_71 (by decide) rfl ?_
          refine jr_goto (tgt := 5) hg dX7_shownNext_74 (by decide) ?_
          have e : z_nx s l r (p + 1) = z_nx s l r p := by rw [z_nx, if_neg (by have q : z_an s l p ≠ 0 := fun q => h37 ((zmv_m1 (by have := z_an_le Wk l p; omega)).mpr q); simp [q])]
          rw [e] at ih
          exact jr_lv [2, 3, 4, 5, 0] rfl ih
        · refine jr_iconst hg (nI 1) dX7_shownNext_40 (by decide) ?_
          refine jr_goto (tgt := 45) hg dX7_shownNext_41 (by decide) ?_
          refine jr_istore hg dX7_shownNext_45 (by decide) rfl ?_
          refine jr_iload hg 0 rfl dX7_shownNext_47 ?_
          refine jr_if_eqN (tgt := 71) hg dX7_shownNext_49 (by decide) (by omega) (fun h => by omega) (fun h49 => ?_)
          have hbl := z_nx_le s l r p
          rcases hb : z_nx s l r p with _ | b
          · rw [hb] at hbl
            refine jr_iload_n hg 4 rfl rfl dX7_shownNext_52 ?_
            refine jr_iconst hg (-1) dX7_shownNext_53 (by decide) ?_
            refine jr_icmp_eq (tgt := 68) hg dX7_shownNext_54 (by decide) (fun h54 => ?_) (fun h => absurd rfl h)
            refine jr_iload hg 5 rfl dX7_shownNext_68 ?_
            refine jr_istore_n hg dX7_shownNext_70 rfl (by decide) rfl ?_
            refine jr_iinc hg 5 rfl (nI (_ + 1)) (nI_1 _) dX7_shownNext_71 (by decide) rfl ?_
            refine jr_goto (tgt := 5) hg dX7_shownNext_74 (by decide) ?_
            have hz : z_an s l p = 0 := (zmv_m1 (by have := z_an_le Wk l p; omega)).mp h37
            have e : z_nx s l r (p + 1) = p + 1 := by rw [z_nx, if_pos (by simp [h23, hz, hb])]
            rw [e, zmv_s] at ih
            exact jr_lv [3, 4, 5, 1, 0] rfl ih
          · rw [hb] at hbl
            rw [zmv_s]
            refine jr_iload_n hg 4 rfl rfl dX7_shownNext_52 ?_
            refine jr_iconst hg (-1) dX7_shownNext_53 (by decide) ?_
            refine jr_icmp_eq (tgt := 68) hg dX7_shownNext_54 (by decide) (fun h => absurd h (nI_ne_m1 (by omega))) (fun h54 => ?_)
            refine jr_aload_n hg 1 rfl rfl dX7_shownNext_57 ?_
            refine jr_iload hg 5 rfl dX7_shownNext_58 ?_
            refine jr_iload_n hg 4 rfl rfl dX7_shownNext_60 ?_
            refine jr_iload_n hg 3 rfl rfl dX7_shownNext_61 ?_
            refine jr_cV3v hg lk_X7_287 (hI 7 (by decide)) rfl rfl (by decide) (by decide) (Nat.le_of_ble_eq_true rfl) dX7_shownNext_62 (c_X7_isShownBefore hI ⟨Rp, Rl, Rk, Rw, Rt, Rd, Ro, Rq⟩ ⟨Wp, Wl, Wk, Ww, Wt, Wd, Wo, Wq⟩ hp (by omega) hr) ?_
            refine jr_if_eqZ (tgt := 71) hg dX7_shownNext_65 (by decide) (fun h65 => ?_) (fun h65 => ?_)
            · refine jr_iinc hg 5 rfl (nI (_ + 1)) (nI_1 _) dX7_shownNext_71 (by decide) rfl ?_
              refine jr_goto (tgt := 5) hg dX7_shownNext_74 (by decide) ?_
              have hz : z_an s l p = 0 := (zmv_m1 (by have := z_an_le Wk l p; omega)).mp h37
              have e : z_nx s l r (p + 1) = z_nx s l r p := by rw [z_nx, if_neg (by simp [hb, h65])]
              rw [hb] at e
              rw [e, zmv_s] at ih
              exact jr_lv [2, 3, 4, 5, 0] rfl ih
            · refine jr_iload hg 5 rfl dX7_shownNext_68 ?_
              refine jr_istore_n hg dX7_shownNext_70 rfl (by decide) rfl ?_
              refine jr_iinc hg 5 rfl (nI (_ + 1)) (nI_1 _) dX7_shownNext_71 (by decide) rfl ?_
              refine jr_goto (tgt := 5) hg dX7_shownNext_74 (by decide) ?_
              have hz : z_an s l p = 0 := (zmv_m1 (by have := z_an_le Wk l p; omega)).mp h37
              have e : z_nx s l r (p + 1) = p + 1 := by rw [z_nx, if_pos (by simp [h23, hz, hb, h65])]
              rw [e, zmv_s] at ih
              exact jr_lv [3, 4, 5, 1, 0] rfl ih
  exact jr_lv [2, 3, 4, 1, 0] rfl (lp5 0 (by omega))

set_option maxRecDepth 100000 in
theorem c_X7_keepsOn {E : mm_E} (hI : mm_FX E) {M : mm_M} {s : zS} (hR : zX s M) (hW : zW s) {l : Nat} (hl : l < s 0 1) : mm_Cal E mX7_keepsOn [.ref (E.1 7), .int (nI l)] M (ret1 (.int (nI (z_st s l).toNat)) M) := by
  obtain ⟨Rp, Rl, Rk, Rw, Rt, Rd, Ro, Rq⟩ := hR
  obtain ⟨Wp, Wl, Wk, Ww, Wt, Wd, Wo, Wq⟩ := hW
  have hnp := Wp.1
  have hnl := Wl.1
  have hnk := Wk.1
  have g6 := zW_w100 Ww 6 (by decide)
  refine jr_entry RX7 (by decide +kernel) (Nat.le_of_ble_eq_true rfl) (fun g hg => ?_)
  refine jr_lv (lv' := [(0, .ref (E.1 7)), (1, .int (nI l))]) [0, 1] rfl ?_
  refine jr_aload_n hg 0 rfl rfl dX7_keepsOn_0 ?_
  refine gf_X7_10 hg (hI 7 (by decide)) dX7_keepsOn_1 ?_
  refine jr_bipush hg (nI 6) dX7_keepsOn_4 (by decide) ?_
  refine jr_cV1v hg lk_X7_102 (hI 1 (by decide)) rfl rfl (by decide) (by decide) (Nat.le_of_ble_eq_true rfl) dX7_keepsOn_6 (c_X1_valueOf hI Rw (by decide)) ?_
  refine jr_istore_n hg dX7_keepsOn_9 rfl (by decide) rfl ?_
  refine jr_iconst hg (nI 0) dX7_keepsOn_10 (by decide) ?_
  refine jr_istore_n hg dX7_keepsOn_11 rfl (by decide) rfl ?_
  refine jr_aload_n hg 2 rfl rfl dX7_keepsOn_12 ?_
  refine gf_X7_40 hg (hI 7 (by decide)) dX7_keepsOn_13 ?_
  refine jr_cV0v hg lk_X7_109 (hI 3 (by decide)) rfl rfl (by decide) (by decide) (Nat.le_of_ble_eq_true rfl) dX7_keepsOn_16 (c_X3_size hI Rk Wk) ?_
  refine jr_iconst hg (nI 1) dX7_keepsOn_19 (by decide) ?_
  refine jr_isub hg dX7_keepsOn_20 ?_
  refine jr_top (zmv_sub1 _) ?_
  refine jr_istore hg dX7_keepsOn_21 (by decide) rfl ?_
  have lp23 : ∀ k : Nat, ∀ n : Nat, n ≤ 100 → k ≤ s 0 2 → z_sg s l (s 10 6) k n = z_st s l → mm_J g E mX7_keepsOn (ret1 (.int (nI (z_st s l).toNat)) M) 23 [(0, .ref (E.1 7)), (1, .int (nI l)), (2, .int (nI (s 10 6))), (3, .int (nI n)), (4, .int (zmv k))] [] (M) := by
    refine jr_dn (S := fun k => ∀ n : Nat, n ≤ 100 → k ≤ s 0 2 → z_sg s l (s 10 6) k n = z_st s l → mm_J g E mX7_keepsOn (ret1 (.int (nI (z_st s l).toNat)) M) 23 [(0, .ref (E.1 7)), (1, .int (nI l)), (2, .int (nI (s 10 6))), (3, .int (nI n)), (4, .int (zmv k))] [] (M)) ?_ ?_
    · intro n hn hk hz
      show mm_J g E mX7_keepsOn (ret1 (.int (nI (z_st s l).toNat)) M) 23 [(0, .ref (E.1 7)), (1, .int (nI l)), (2, .int (nI (s 10 6))), (3, .int (nI n)), (4, .int (zmv 0))] [] (M)
      refine jr_iload hg 4 rfl dX7_keepsOn_23 ?_
      refine jr_if_lt (tgt := 77) hg dX7_keepsOn_25 (by decide) (fun h25 => ?_) (fun h => absurd zm1 h)
      refine jr_iload_n hg 3 rfl rfl dX7_keepsOn_77 ?_
      refine jr_iload_n hg 2 rfl rfl dX7_keepsOn_78 ?_
      refine jr_icmp_geN (tgt := 86) hg dX7_keepsOn_79 (by decide) (by omega) (by omega) (fun h79 => ?_) (fun h79 => ?_)
      · refine jr_iconst hg (nI 0) dX7_keepsOn_86 (by decide) ?_
        exact jr_zret hg rfl (by first | exact Or.inl rfl | exact Or.inr rfl | exact z01 _) dX7_keepsOn_87 (⟨by rw [← hz, z_sg, decide_eq_false (by omega)]; rfl, rfl⟩)
      · refine jr_iconst hg (nI 1) dX7_keepsOn_82 (by decide) ?_
        refine jr_goto (tgt := 87) hg dX7_keepsOn_83 (by decide) ?_
        exact jr_zret hg rfl (by first | exact Or.inl rfl | exact Or.inr rfl | exact z01 _) dX7_keepsOn_87 (⟨by rw [← hz, z_sg, decide_eq_true (by omega)]; rfl, rfl⟩)
    · intro k ih n hn hk hz
      show mm_J g E mX7_keepsOn (ret1 (.int (nI (z_st s l).toNat)) M) 23 [(0, .ref (E.1 7)), (1, .int (nI l)), (2, .int (nI (s 10 6))), (3, .int (nI n)), (4, .int (nI k))] [] (M)
      have hlo := Wk.2.1 k (by omega)
      have hfr := (Wp.2 (s 8 k) hlo.2.1).2.1
      refine jr_iload hg 4 rfl dX7_keepsOn_23 ?_
      refine jr_if_ltN hg dX7_keepsOn_25 (tgt := 77) (by decide) (by omega) ?_
      refine jr_iload_n hg 3 rfl rfl dX7_keepsOn_28 ?_
      refine jr_iload_n hg 2 rfl rfl dX7_keepsOn_29 ?_
      refine jr_icmp_geN (tgt := 77) hg dX7_keepsOn_30 (by decide) (by omega) (by omega) (fun h30 => ?_) (fun h30 => ?_)
      · refine jr_iload_n hg 3 rfl rfl dX7_keepsOn_77 ?_
        refine jr_iload_n hg 2 rfl rfl dX7_keepsOn_78 ?_
        refine jr_icmp_geN (tgt := 86) hg dX7_keepsOn_79 (by decide) (by omega) (by omega) (fun h79 => ?_) (fun h => by omega)
        refine jr_iconst hg (nI 0) dX7_keepsOn_86 (by decide) ?_
        exact jr_zret hg rfl (by first | exact Or.inl rfl | exact Or.inr rfl | exact z01 _) dX7_keepsOn_87 (⟨by rw [← hz, z_sg, if_neg (by omega)]; rfl, rfl⟩)
      · refine jr_aload_n hg 0 rfl rfl dX7_keepsOn_33 ?_
        refine gf_X7_40 hg (hI 7 (by decide)) dX7_keepsOn_34 ?_
        refine jr_iload hg 4 rfl dX7_keepsOn_37 ?_
        refine jr_cV1v hg lk_X7_163 (hI 3 (by decide)) rfl rfl (by decide) (by decide) (Nat.le_of_ble_eq_true rfl) dX7_keepsOn_39 (c_X3_lookerOf hI Rk Wk (by omega)) ?_
        refine jr_iload_n hg 1 rfl rfl dX7_keepsOn_42 ?_
        refine jr_icmp_neN (tgt := 71) hg dX7_keepsOn_43 (by decide) (by omega) (by omega) (fun h43 => ?_) (fun h43 => ?_)
        · refine jr_iinc hg 4 rfl (zmv k) (zmv_dec k) dX7_keepsOn_71 (by decide) rfl ?_
          refine jr_goto (tgt := 23) hg dX7_keepsOn_74 (by decide) ?_
          have e : z_sg s l (s 10 6) (k + 1) n = z_sg s l (s 10 6) k n := by rw [z_sg, if_pos h30, if_neg h43]
          exact jr_lv [1, 2, 3, 4, 0] rfl (ih n (by omega) (by omega) (by rw [← hz, e]))
        · refine jr_aload_n hg 0 rfl rfl dX7_keepsOn_46 ?_
          refine gf_X7_26 hg (hI 7 (by decide)) dX7_keepsOn_47 ?_
          refine jr_aload_n hg 0 rfl rfl dX7_keepsOn_50 ?_
          refine gf_X7_40 hg (hI 7 (by decide)) dX7_keepsOn_51 ?_
          refine jr_iload hg 4 rfl dX7_keepsOn_54 ?_
          refine jr_cV1v hg lk_X7_166 (hI 3 (by decide)) rfl rfl (by decide) (by decide) (Nat.le_of_ble_eq_true rfl) dX7_keepsOn_56 (c_X3_pictureOf hI Rk Wk (by omega)) ?_
          refine jr_cV1v hg lk_X7_83 (hI 4 (by decide)) rfl rfl (by decide) (by decide) (Nat.le_of_ble_eq_true rfl) dX7_keepsOn_59 (c_X4_farOf hI Rp Wp (by omega)) ?_
          refine jr_iconst hg (nI 1) dX7_keepsOn_62 (by decide) ?_
          refine jr_icmp_eqN (tgt := 68) hg dX7_keepsOn_63 (by decide) (by omega) (by omega) (fun h63 => ?_) (fun h63 => ?_)
          · refine jr_iinc hg 3 rfl (nI (_ + 1)) (nI_1 _) dX7_keepsOn_68 (by decide) rfl ?_
            refine jr_iinc hg 4 rfl (zmv k) (zmv_dec k) dX7_keepsOn_71 (by decide) rfl ?_
            refine jr_goto (tgt := 23) hg dX7_keepsOn_74 (by decide) ?_
            have e : z_sg s l (s 10 6) (k + 1) n = z_sg s l (s 10 6) k (n + 1) := by rw [z_sg, if_pos h30, if_pos h43, if_pos h63]
            exact jr_lv [2, 3, 4, 1, 0] rfl (ih (n + 1) (by omega) (by omega) (by rw [← hz, e]))
          · refine jr_iconst hg (nI 1) dX7_keepsOn_66 (by decide) ?_
            exact jr_zret hg rfl (by first | exact Or.inl rfl | exact Or.inr rfl | exact z01 _) dX7_keepsOn_67 (⟨by rw [← hz, z_sg, if_pos h30, if_pos h43, if_neg h63]; rfl, rfl⟩)
  exact jr_lv [3, 4, 2, 1, 0] rfl (lp23 (s 0 2) 0 (by omega) (by omega) rfl)

set_option maxRecDepth 100000 in
theorem c_X7_stayingOnes {E : mm_E} (hI : mm_FX E) {M : mm_M} {s : zS} (hR : zX s M) (hW : zW s) : mm_Cal E mX7_stayingOnes [.ref (E.1 7)] M (ret1 (.int (nI (zcnt (z_st s) (s 0 1)))) M) := by
  obtain ⟨Rp, Rl, Rk, Rw, Rt, Rd, Ro, Rq⟩ := hR
  obtain ⟨Wp, Wl, Wk, Ww, Wt, Wd, Wo, Wq⟩ := hW
  have hnp := Wp.1
  have hnl := Wl.1
  have hnk := Wk.1
  refine jr_entry RX7 (by decide +kernel) (Nat.le_of_ble_eq_true rfl) (fun g hg => ?_)
  refine jr_lv (lv' := [(0, .ref (E.1 7))]) [0] rfl ?_
  refine jr_iconst hg (nI 0) dX7_stayingOnes_0 (by decide) ?_
  refine jr_istore_n hg dX7_stayingOnes_1 rfl (by decide) rfl ?_
  refine jr_iconst hg (nI 0) dX7_stayingOnes_2 (by decide) ?_
  refine jr_istore_n hg dX7_stayingOnes_3 rfl (by decide) rfl ?_
  have lp4 : ∀ p : Nat, p ≤ s 0 1 →  mm_J g E mX7_stayingOnes (ret1 (.int (nI (zcnt (z_st s) (s 0 1)))) M) 4 [(0, .ref (E.1 7)), (1, .int (nI (zcnt (z_st s) p))), (2, .int (nI p))] [] (M) := by
    refine jr_up (S := fun p =>  mm_J g E mX7_stayingOnes (ret1 (.int (nI (zcnt (z_st s) (s 0 1)))) M) 4 [(0, .ref (E.1 7)), (1, .int (nI (zcnt (z_st s) p))), (2, .int (nI p))] [] (M)) (n := s 0 1) ?_ ?_
    · show mm_J g E mX7_stayingOnes (ret1 (.int (nI (zcnt (z_st s) (s 0 1)))) M) 4 [(0, .ref (E.1 7)), (1, .int (nI (zcnt (z_st s) (s 0 1)))), (2, .int (nI (s 0 1)))] [] (M)
      refine jr_iload_n hg 2 rfl rfl dX7_stayingOnes_4 ?_
      refine jr_aload_n hg 0 rfl rfl dX7_stayingOnes_5 ?_
      refine gf_X7_33 hg (hI 7 (by decide)) dX7_stayingOnes_6 ?_
      refine jr_cV0v hg lk_X7_108 (hI 2 (by decide)) rfl rfl (by decide) (by decide) (Nat.le_of_ble_eq_true rfl) dX7_stayingOnes_9 (c_X2_size hI Rl Wl) ?_
      refine jr_icmp_geN (tgt := 32) hg dX7_stayingOnes_12 (by decide) (by omega) (by omega) (fun h12 => ?_) (fun h => by omega)
      refine jr_iload_n hg 1 rfl rfl dX7_stayingOnes_32 ?_
      exact jr_iret hg rfl dX7_stayingOnes_33 (⟨rfl, rfl⟩)
    · intro p hp ih 
      show mm_J g E mX7_stayingOnes (ret1 (.int (nI (zcnt (z_st s) (s 0 1)))) M) 4 [(0, .ref (E.1 7)), (1, .int (nI (zcnt (z_st s) p))), (2, .int (nI p))] [] (M)
      refine jr_iload_n hg 2 rfl rfl dX7_stayingOnes_4 ?_
      refine jr_aload_n hg 0 rfl rfl dX7_stayingOnes_5 ?_
      refine gf_X7_33 hg (hI 7 (by decide)) dX7_stayingOnes_6 ?_
      refine jr_cV0v hg lk_X7_108 (hI 2 (by decide)) rfl rfl (by decide) (by decide) (Nat.le_of_ble_eq_true rfl) dX7_stayingOnes_9 (c_X2_size hI Rl Wl) ?_
      refine jr_icmp_geN (tgt := 32) hg dX7_stayingOnes_12 (by decide) (by omega) (by omega) (fun h => by omega) (fun h12 => ?_)
      refine jr_iload_n hg 1 rfl rfl dX7_stayingOnes_15 ?_
      refine jr_aload_n hg 0 rfl rfl dX7_stayingOnes_16 ?_
      refine jr_iload_n hg 2 rfl rfl dX7_stayingOnes_17 ?_
      refine jr_cV1v hg lk_X7_189 (hI 7 (by decide)) rfl rfl (by decide) (by decide) (Nat.le_of_ble_eq_true rfl) dX7_stayingOnes_18 (c_X7_keepsOn hI ⟨Rp, Rl, Rk, Rw, Rt, Rd, Ro, Rq⟩ ⟨Wp, Wl, Wk, Ww, Wt, Wd, Wo, Wq⟩ hp) ?_
      refine jr_cS1v hg lk_X7_131 (by decide) (by decide) (Nat.le_of_ble_eq_true rfl) dX7_stayingOnes_21 (c_X7_oneIf hI (Bool.toNat_le _)) ?_
      refine jr_iaddN hg dX7_stayingOnes_24 ?_
      refine jr_istore_n hg dX7_stayingOnes_25 rfl (by decide) rfl ?_
      refine jr_iinc hg 2 rfl (nI (_ + 1)) (nI_1 _) dX7_stayingOnes_26 (by decide) rfl ?_
      refine jr_goto (tgt := 4) hg dX7_stayingOnes_29 (by decide) ?_
      exact jr_lv [2, 1, 0] rfl ih
  exact jr_lv [2, 1, 0] rfl (lp4 0 (by omega))
