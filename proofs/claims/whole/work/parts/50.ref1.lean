theorem zwide_lt (a b : Int32) : a.toInt64 < b.toInt64 ↔ a < b := by rw [Int64.lt_iff_toInt_lt, Int32.lt_iff_toInt_lt, Int32.toInt_toInt64, Int32.toInt_toInt64]
theorem zwide_le (a b : Int32) : a.toInt64 ≤ b.toInt64 ↔ a ≤ b := by rw [Int64.le_iff_toInt_le, Int32.le_iff_toInt_le, Int32.toInt_toInt64, Int32.toInt_toInt64]

set_option maxRecDepth 100000 in
theorem c_X8_inI {E : mm_E} (hI : mm_FR E) {M : mm_M} {a b c : Int64} {x lo hi : Int32} (e1 : a = x.toInt64) (e2 : b = lo.toInt64) (e3 : c = hi.toInt64) : mm_Cal E mX8_in [.long a, .long b, .long c] M (ret1 (.int (nI (decide (lo ≤ x ∧ x ≤ hi)).toNat)) M) := by
  have g1 := zwide_lt x lo
  have g2 := zwide_lt hi x
  rw [← e1, ← e2] at g1
  rw [← e1, ← e3] at g2
  refine jr_entry RX8 (by decide +kernel) (Nat.le_of_ble_eq_true rfl) (fun g hg => ?_)
  refine jr_lv (lv' := [(0, .long a), (2, .long b), (4, .long c)]) [0, 1, 2] rfl ?_
  refine jr_lload_n hg 0 rfl rfl dX8_in_0 ?_
  refine jr_lload_n hg 1 rfl rfl dX8_in_1 ?_
  refine jr_lcmp hg dX8_in_2 ?_
  refine jr_if_lt (tgt := 17) hg dX8_in_3 (by decide) (fun h3 => ?_) (fun h3 => ?_)
  · refine jr_iconst hg (nI 0) dX8_in_17 (by decide) ?_
    exact jr_zret hg rfl (by first | exact Or.inl rfl | exact Or.inr rfl | exact z01 _) dX8_in_18 (⟨by rw [decide_eq_false (fun h => zlt_nle (g1.mp ((lg_cmp_lt _ _).mp h3)) h.1)]; rfl, rfl⟩)
  · refine jr_lload_n hg 0 rfl rfl dX8_in_6 ?_
    refine jr_lload hg 2 rfl dX8_in_7 ?_
    refine jr_lcmp hg dX8_in_9 ?_
    refine jr_if_gt (tgt := 17) hg dX8_in_10 (by decide) (fun h10 => ?_) (fun h10 => ?_)
    · refine jr_iconst hg (nI 0) dX8_in_17 (by decide) ?_
      exact jr_zret hg rfl (by first | exact Or.inl rfl | exact Or.inr rfl | exact z01 _) dX8_in_18 (⟨by rw [decide_eq_false (fun h => zlt_nle (g2.mp ((lg_cmp_gt _ _).mp h10)) h.2)]; rfl, rfl⟩)
    · refine jr_iconst hg (nI 1) dX8_in_13 (by decide) ?_
      refine jr_goto (tgt := 18) hg dX8_in_14 (by decide) ?_
      exact jr_zret hg rfl (by first | exact Or.inl rfl | exact Or.inr rfl | exact z01 _) dX8_in_18 (⟨by rw [decide_eq_true ⟨znlt_le (fun q => h3 ((lg_cmp_lt _ _).mpr (g1.mpr q))), znlt_le (fun q => h10 ((lg_cmp_gt _ _).mpr (g2.mpr q)))⟩]; rfl, rfl⟩)

theorem zw_0 (x : Int32) {n : Nat} (hn : n + 1 < 2 ^ 31) : decide (nI 0 ≤ x ∧ x ≤ nI n) = zin x (n + 1) := by
  rw [zin]
  refine decide_eq_decide.mpr ?_
  rw [Int32.le_iff_toInt_le, Int32.le_iff_toInt_le, nI_toInt (by decide), nI_toInt (by omega)]
  omega
theorem zw_m (x : Int32) {n : Nat} (hn : n < 2 ^ 30) : decide (nI 0 ≤ x ∧ x ≤ nI n - nI 1) = zin x n := by
  rw [zin]
  refine decide_eq_decide.mpr ?_
  rw [Int32.le_iff_toInt_le, Int32.le_iff_toInt_le, nI_toInt (by decide), pk_sub_toInt hn (by decide)]
  omega
theorem c_X8_in0 {E : mm_E} (hI : mm_FR E) {M : mm_M} {a : Int64} (x : Int32) {n : Nat} (e : a = x.toInt64) (hn : n + 1 < 2 ^ 31) : mm_Cal E mX8_in [.long a, .long (lN 0), .long (lN n)] M (ret1 (.int (nI (zin x (n + 1)).toNat)) M) := by
  have h := c_X8_inI hI (M := M) e (nI_l (n := 0) (by decide)).symm (nI_l (n := n) (by omega)).symm
  rw [zw_0 x hn] at h
  exact h
theorem c_X8_inM {E : mm_E} (hI : mm_FR E) {M : mm_M} {a : Int64} (x : Int32) {n : Nat} (e : a = x.toInt64) (hn : n < 2 ^ 30) : mm_Cal E mX8_in [.long a, .long (lN 0), .long (nI n - nI 1).toInt64] M (ret1 (.int (nI (zin x n).toNat)) M) := by
  have h := c_X8_inI hI (M := M) e (nI_l (n := 0) (by decide)).symm (rfl : (nI n - nI 1).toInt64 = (nI n - nI 1).toInt64)
  rw [zw_m x hn] at h
  exact h
theorem c_X8_inW {E : mm_E} (hI : mm_FR E) {M : mm_M} {a : Int64} (x : Int32) {lo hi : Nat} (e : a = x.toInt64) (hl : lo < 2 ^ 31) (hh : hi < 2 ^ 31) : mm_Cal E mX8_in [.long a, .long (lN lo), .long (lN hi)] M (ret1 (.int (nI (zwi lo hi x).toNat)) M) := by
  have h := c_X8_inI hI (M := M) e (nI_l hl).symm (nI_l hh).symm
  rw [zwi_le hl hh] at h
  exact h

set_option maxRecDepth 100000 in
theorem c_X8_one {E : mm_E} (hI : mm_FR E) {M : mm_M} {a : Nat} (ha : a ≤ 1) : mm_Cal E mX8_one [.int (nI a)] M (ret1 (.int (nI a)) M) := by
  refine jr_entry RX8 (by decide +kernel) (Nat.le_of_ble_eq_true rfl) (fun g hg => ?_)
  refine jr_lv (lv' := [(0, .int (nI a))]) [0] rfl ?_
  refine jr_iload_n hg 0 rfl rfl dX8_one_0 ?_
  refine jr_if_eqN (tgt := 8) hg dX8_one_1 (by decide) (by omega) (fun h1 => ?_) (fun h1 => ?_)
  · refine jr_iconst hg (nI 0) dX8_one_8 (by decide) ?_
    exact jr_iret hg rfl dX8_one_9 (⟨by rw [h1], rfl⟩)
  · refine jr_iconst hg (nI 1) dX8_one_4 (by decide) ?_
    refine jr_goto (tgt := 9) hg dX8_one_5 (by decide) ?_
    exact jr_iret hg rfl dX8_one_9 (⟨by rw [show a = 1 by omega], rfl⟩)

set_option maxRecDepth 100000 in
theorem c_X8_noPicture {E : mm_E} (hI : mm_FR E) {M : mm_M} {s : zS} (hR : zR s M) (hW : zW s) (x : Int32) : mm_Cal E mX8_noPicture [.ref (E.1 35), .int x] M (ret1 (.int (nI (!zin x (s 0 0)).toNat)) M) := by
  obtain ⟨Rp, Rl, Rk, Rw, Rt, Rd, Ro, Rq⟩ := hR
  obtain ⟨Wp, Wl, Wk, Ww, Wt, Wd, Wo, Wq⟩ := hW
  have hnp := Wp.1
  have hnl := Wl.1
  have hnk := Wk.1
  have rall : zR s M := ⟨Rp, Rl, Rk, Rw, Rt, Rd, Ro, Rq⟩
  have wall : zW s := ⟨Wp, Wl, Wk, Ww, Wt, Wd, Wo, Wq⟩
  refine jr_entry RX8 (by decide +kernel) (Nat.le_of_ble_eq_true rfl) (fun g hg => ?_)
  refine jr_lv (lv' := [(0, .ref (E.1 35)), (1, .int x)]) [0, 1] rfl ?_
  refine jr_iload_n hg 1 rfl rfl dX8_noPicture_0 ?_
  refine jr_i2l hg _ dX8_noPicture_1 rfl ?_
  refine jr_lconst hg (lN 0) dX8_noPicture_2 (by decide) ?_
  refine jr_aload_n hg 0 rfl rfl dX8_noPicture_3 ?_
  refine gf_X8_154 hg (hI 35 (by decide)) dX8_noPicture_4 ?_
  refine jr_top (Rp.1) ?_
  refine jr_iconst hg (nI 1) dX8_noPicture_7 (by decide) ?_
  refine jr_isub hg dX8_noPicture_8 ?_
  refine jr_i2l hg _ dX8_noPicture_9 rfl ?_
  refine jr_cS3v hg lk_X8_100 (by decide) (by decide) (Nat.le_of_ble_eq_true rfl) dX8_noPicture_10 (c_X8_inM hI x rfl (by omega)) ?_
  refine jr_if_neZ (tgt := 20) hg dX8_noPicture_13 (by decide) (fun h13 => ?_) (fun h13 => ?_)
  · refine jr_iconst hg (nI 0) dX8_noPicture_20 (by decide) ?_
    exact jr_zret hg rfl (by first | exact Or.inl rfl | exact Or.inr rfl | exact z01 _) dX8_noPicture_21 (⟨by rw [h13]; rfl, rfl⟩)
  · refine jr_iconst hg (nI 1) dX8_noPicture_16 (by decide) ?_
    refine jr_goto (tgt := 21) hg dX8_noPicture_17 (by decide) ?_
    exact jr_zret hg rfl (by first | exact Or.inl rfl | exact Or.inr rfl | exact z01 _) dX8_noPicture_21 (⟨by rw [h13]; rfl, rfl⟩)

set_option maxRecDepth 100000 in
theorem c_X8_noLooker {E : mm_E} (hI : mm_FR E) {M : mm_M} {s : zS} (hR : zR s M) (hW : zW s) (x : Int32) : mm_Cal E mX8_noLooker [.ref (E.1 35), .int x] M (ret1 (.int (nI (!zin x (s 0 1)).toNat)) M) := by
  obtain ⟨Rp, Rl, Rk, Rw, Rt, Rd, Ro, Rq⟩ := hR
  obtain ⟨Wp, Wl, Wk, Ww, Wt, Wd, Wo, Wq⟩ := hW
  have hnp := Wp.1
  have hnl := Wl.1
  have hnk := Wk.1
  have rall : zR s M := ⟨Rp, Rl, Rk, Rw, Rt, Rd, Ro, Rq⟩
  have wall : zW s := ⟨Wp, Wl, Wk, Ww, Wt, Wd, Wo, Wq⟩
  refine jr_entry RX8 (by decide +kernel) (Nat.le_of_ble_eq_true rfl) (fun g hg => ?_)
  refine jr_lv (lv' := [(0, .ref (E.1 35)), (1, .int x)]) [0, 1] rfl ?_
  refine jr_iload_n hg 1 rfl rfl dX8_noLooker_0 ?_
  refine jr_i2l hg _ dX8_noLooker_1 rfl ?_
  refine jr_lconst hg (lN 0) dX8_noLooker_2 (by decide) ?_
  refine jr_aload_n hg 0 rfl rfl dX8_noLooker_3 ?_
  refine gf_X8_165 hg (hI 35 (by decide)) dX8_noLooker_4 ?_
  refine jr_top (Rl.1) ?_
  refine jr_iconst hg (nI 1) dX8_noLooker_7 (by decide) ?_
  refine jr_isub hg dX8_noLooker_8 ?_
  refine jr_i2l hg _ dX8_noLooker_9 rfl ?_
  refine jr_cS3v hg lk_X8_100 (by decide) (by decide) (Nat.le_of_ble_eq_true rfl) dX8_noLooker_10 (c_X8_inM hI x rfl (by omega)) ?_
  refine jr_if_neZ (tgt := 20) hg dX8_noLooker_13 (by decide) (fun h13 => ?_) (fun h13 => ?_)
  · refine jr_iconst hg (nI 0) dX8_noLooker_20 (by decide) ?_
    exact jr_zret hg rfl (by first | exact Or.inl rfl | exact Or.inr rfl | exact z01 _) dX8_noLooker_21 (⟨by rw [h13]; rfl, rfl⟩)
  · refine jr_iconst hg (nI 1) dX8_noLooker_16 (by decide) ?_
    refine jr_goto (tgt := 21) hg dX8_noLooker_17 (by decide) ?_
    exact jr_zret hg rfl (by first | exact Or.inl rfl | exact Or.inr rfl | exact z01 _) dX8_noLooker_21 (⟨by rw [h13]; rfl, rfl⟩)

set_option maxRecDepth 100000 in
theorem c_X8_looksAt {E : mm_E} (hI : mm_FR E) {M : mm_M} {s : zS} (hR : zR s M) (hW : zW s) {p : Nat} (hp : p < s 0 0) : mm_Cal E mX8_looksAt [.ref (E.1 35), .int (nI p)] M (ret1 (.int (nI (zcnt (z_of s p) (s 0 2)))) M) := by
  obtain ⟨Rp, Rl, Rk, Rw, Rt, Rd, Ro, Rq⟩ := hR
  obtain ⟨Wp, Wl, Wk, Ww, Wt, Wd, Wo, Wq⟩ := hW
  have hnp := Wp.1
  have hnl := Wl.1
  have hnk := Wk.1
  have rall : zR s M := ⟨Rp, Rl, Rk, Rw, Rt, Rd, Ro, Rq⟩
  have wall : zW s := ⟨Wp, Wl, Wk, Ww, Wt, Wd, Wo, Wq⟩
  refine jr_entry RX8 (by decide +kernel) (Nat.le_of_ble_eq_true rfl) (fun g hg => ?_)
  refine jr_lv (lv' := [(0, .ref (E.1 35)), (1, .int (nI p))]) [0, 1] rfl ?_
  refine jr_iconst hg (nI 0) dX8_looksAt_0 (by decide) ?_
  refine jr_istore_n hg dX8_looksAt_1 rfl (by decide) rfl ?_
  refine jr_iconst hg (nI 0) dX8_looksAt_2 (by decide) ?_
  refine jr_istore_n hg dX8_looksAt_3 rfl (by decide) rfl ?_
  have lp4 : ∀ k : Nat, k ≤ s 0 2 →  mm_J g E mX8_looksAt (ret1 (.int (nI (zcnt (z_of s p) (s 0 2)))) M) 4 [(0, .ref (E.1 35)), (1, .int (nI p)), (2, .int (nI ((zcnt (z_of s p) k)))), (3, .int (nI k))] [] (M) := by
    refine jr_up (S := fun k =>  mm_J g E mX8_looksAt (ret1 (.int (nI (zcnt (z_of s p) (s 0 2)))) M) 4 [(0, .ref (E.1 35)), (1, .int (nI p)), (2, .int (nI ((zcnt (z_of s p) k)))), (3, .int (nI k))] [] (M)) (n := s 0 2) ?_ ?_
    · show mm_J g E mX8_looksAt (ret1 (.int (nI (zcnt (z_of s p) (s 0 2)))) M) 4 [(0, .ref (E.1 35)), (1, .int (nI p)), (2, .int (nI ((zcnt (z_of s p) (s 0 2))))), (3, .int (nI (s 0 2)))] [] (M)
      refine jr_iload_n hg 3 rfl rfl dX8_looksAt_4 ?_
      refine jr_aload_n hg 0 rfl rfl dX8_looksAt_5 ?_
      refine gf_X8_174 hg (hI 35 (by decide)) dX8_looksAt_6 ?_
      refine jr_top (Rk.1) ?_
      refine jr_icmp_geN (tgt := 39) hg dX8_looksAt_9 (by decide) (by omega) (by omega) (fun h9 => ?_) (fun h => by omega)
      refine jr_iload_n hg 2 rfl rfl dX8_looksAt_39 ?_
      exact jr_iret hg rfl dX8_looksAt_40 (⟨rfl, rfl⟩)
    · intro k hk ih 
      show mm_J g E mX8_looksAt (ret1 (.int (nI (zcnt (z_of s p) (s 0 2)))) M) 4 [(0, .ref (E.1 35)), (1, .int (nI p)), (2, .int (nI ((zcnt (z_of s p) k)))), (3, .int (nI k))] [] (M)
      have hlo := Wk.2.1 k hk
      refine jr_iload_n hg 3 rfl rfl dX8_looksAt_4 ?_
      refine jr_aload_n hg 0 rfl rfl dX8_looksAt_5 ?_
      refine gf_X8_174 hg (hI 35 (by decide)) dX8_looksAt_6 ?_
      refine jr_top (Rk.1) ?_
      refine jr_icmp_geN (tgt := 39) hg dX8_looksAt_9 (by decide) (by omega) (by omega) (fun h => by omega) (fun h9 => ?_)
      refine jr_iload_n hg 2 rfl rfl dX8_looksAt_12 ?_
      refine jr_aload_n hg 0 rfl rfl dX8_looksAt_13 ?_
      refine gf_X8_45 hg (hI 35 (by decide)) dX8_looksAt_14 ?_
      refine jr_iload_n hg 3 rfl rfl dX8_looksAt_17 ?_
      refine jr_ialdN hg (n := 200) (by omega) (by decide) (hI 46 (by decide)) (ac_46 _ _) dX8_looksAt_18 ?_
      refine jr_top ((Rk.2 _ (by omega)).2.1) ?_
      refine jr_iload_n hg 1 rfl rfl dX8_looksAt_19 ?_
      refine jr_icmp_neN (tgt := 27) hg dX8_looksAt_20 (by decide) (by omega) (by omega) (fun h20 => ?_) (fun h20 => ?_)
      · refine jr_iconst hg (nI 0) dX8_looksAt_27 (by decide) ?_
        refine jr_cS1v hg lk_X8_148 (by decide) (by decide) (Nat.le_of_ble_eq_true rfl) dX8_looksAt_28 (c_X8_one hI (by decide)) ?_
        refine jr_iaddN hg dX8_looksAt_31 ?_
        refine jr_istore_n hg dX8_looksAt_32 rfl (by decide) rfl ?_
        refine jr_iinc hg 3 rfl (nI (_ + 1)) (nI_1 _) dX8_looksAt_33 (by decide) rfl ?_
        refine jr_goto (tgt := 4) hg dX8_looksAt_36 (by decide) ?_
        have e : zcnt (z_of s p) (k + 1) = zcnt (z_of s p) k + 0 := by
          have q : (z_of s p) k = false := by simp [z_of, h20]
          rw [zcnt_s, q]; rfl
        rw [e] at ih
        exact jr_lv [2, 3, 1, 0] rfl ih
      · refine jr_iconst hg (nI 1) dX8_looksAt_23 (by decide) ?_
        refine jr_goto (tgt := 28) hg dX8_looksAt_24 (by decide) ?_
        refine jr_cS1v hg lk_X8_148 (by decide) (by decide) (Nat.le_of_ble_eq_true rfl) dX8_looksAt_28 (c_X8_one hI (by decide)) ?_
        refine jr_iaddN hg dX8_looksAt_31 ?_
        refine jr_istore_n hg dX8_looksAt_32 rfl (by decide) rfl ?_
        refine jr_iinc hg 3 rfl (nI (_ + 1)) (nI_1 _) dX8_looksAt_33 (by decide) rfl ?_
        refine jr_goto (tgt := 4) hg dX8_looksAt_36 (by decide) ?_
        have e : zcnt (z_of s p) (k + 1) = zcnt (z_of s p) k + 1 := by
          have q : (z_of s p) k = true := by simp [z_of, h20]
          rw [zcnt_s, q]; rfl
        rw [e] at ih
        exact jr_lv [2, 3, 1, 0] rfl ih
  exact jr_lv [2, 3, 1, 0] rfl (lp4 0 (by omega))

set_option maxRecDepth 100000 in
theorem c_X8_greens {E : mm_E} (hI : mm_FR E) {M : mm_M} {s : zS} (hR : zR s M) (hW : zW s) {p : Nat} (hp : p < s 0 0) : mm_Cal E mX8_greens [.ref (E.1 35), .int (nI p)] M (ret1 (.int (nI (zcnt (z_gr s p) (s 0 2)))) M) := by
  obtain ⟨Rp, Rl, Rk, Rw, Rt, Rd, Ro, Rq⟩ := hR
  obtain ⟨Wp, Wl, Wk, Ww, Wt, Wd, Wo, Wq⟩ := hW
  have hnp := Wp.1
  have hnl := Wl.1
  have hnk := Wk.1
  have rall : zR s M := ⟨Rp, Rl, Rk, Rw, Rt, Rd, Ro, Rq⟩
  have wall : zW s := ⟨Wp, Wl, Wk, Ww, Wt, Wd, Wo, Wq⟩
  refine jr_entry RX8 (by decide +kernel) (Nat.le_of_ble_eq_true rfl) (fun g hg => ?_)
  refine jr_lv (lv' := [(0, .ref (E.1 35)), (1, .int (nI p))]) [0, 1] rfl ?_
  refine jr_iconst hg (nI 0) dX8_greens_0 (by decide) ?_
  refine jr_istore_n hg dX8_greens_1 rfl (by decide) rfl ?_
  refine jr_iconst hg (nI 0) dX8_greens_2 (by decide) ?_
  refine jr_istore_n hg dX8_greens_3 rfl (by decide) rfl ?_
  have lp4 : ∀ k : Nat, k ≤ s 0 2 →  mm_J g E mX8_greens (ret1 (.int (nI (zcnt (z_gr s p) (s 0 2)))) M) 4 [(0, .ref (E.1 35)), (1, .int (nI p)), (2, .int (nI ((zcnt (z_gr s p) k)))), (3, .int (nI k))] [] (M) := by
    refine jr_up (S := fun k =>  mm_J g E mX8_greens (ret1 (.int (nI (zcnt (z_gr s p) (s 0 2)))) M) 4 [(0, .ref (E.1 35)), (1, .int (nI p)), (2, .int (nI ((zcnt (z_gr s p) k)))), (3, .int (nI k))] [] (M)) (n := s 0 2) ?_ ?_
    · show mm_J g E mX8_greens (ret1 (.int (nI (zcnt (z_gr s p) (s 0 2)))) M) 4 [(0, .ref (E.1 35)), (1, .int (nI p)), (2, .int (nI ((zcnt (z_gr s p) (s 0 2))))), (3, .int (nI (s 0 2)))] [] (M)
      refine jr_iload_n hg 3 rfl rfl dX8_greens_4 ?_
      refine jr_aload_n hg 0 rfl rfl dX8_greens_5 ?_
      refine gf_X8_174 hg (hI 35 (by decide)) dX8_greens_6 ?_
      refine jr_top (Rk.1) ?_
      refine jr_icmp_geN (tgt := 49) hg dX8_greens_9 (by decide) (by omega) (by omega) (fun h9 => ?_) (fun h => by omega)
      refine jr_iload_n hg 2 rfl rfl dX8_greens_49 ?_
      exact jr_iret hg rfl dX8_greens_50 (⟨rfl, rfl⟩)
    · intro k hk ih 
      show mm_J g E mX8_greens (ret1 (.int (nI (zcnt (z_gr s p) (s 0 2)))) M) 4 [(0, .ref (E.1 35)), (1, .int (nI p)), (2, .int (nI ((zcnt (z_gr s p) k)))), (3, .int (nI k))] [] (M)
      have hlo := Wk.2.1 k hk
      refine jr_iload_n hg 3 rfl rfl dX8_greens_4 ?_
      refine jr_aload_n hg 0 rfl rfl dX8_greens_5 ?_
      refine gf_X8_174 hg (hI 35 (by decide)) dX8_greens_6 ?_
      refine jr_top (Rk.1) ?_
      refine jr_icmp_geN (tgt := 49) hg dX8_greens_9 (by decide) (by omega) (by omega) (fun h => by omega) (fun h9 => ?_)
      refine jr_iload_n hg 2 rfl rfl dX8_greens_12 ?_
      refine jr_aload_n hg 0 rfl rfl dX8_greens_13 ?_
      refine gf_X8_45 hg (hI 35 (by decide)) dX8_greens_14 ?_
      refine jr_iload_n hg 3 rfl rfl dX8_greens_17 ?_
      refine jr_ialdN hg (n := 200) (by omega) (by decide) (hI 46 (by decide)) (ac_46 _ _) dX8_greens_18 ?_
      refine jr_top ((Rk.2 _ (by omega)).2.1) ?_
      refine jr_iload_n hg 1 rfl rfl dX8_greens_19 ?_
      refine jr_icmp_neN (tgt := 37) hg dX8_greens_20 (by decide) (by omega) (by omega) (fun h20 => ?_) (fun h20 => ?_)
      · refine jr_iconst hg (nI 0) dX8_greens_37 (by decide) ?_
        refine jr_cS1v hg lk_X8_148 (by decide) (by decide) (Nat.le_of_ble_eq_true rfl) dX8_greens_38 (c_X8_one hI (by decide)) ?_
        refine jr_iaddN hg dX8_greens_41 ?_
        refine jr_istore_n hg dX8_greens_42 rfl (by decide) rfl ?_
        refine jr_iinc hg 3 rfl (nI (_ + 1)) (nI_1 _) dX8_greens_43 (by decide) rfl ?_
        refine jr_goto (tgt := 4) hg dX8_greens_46 (by decide) ?_
        have e : zcnt (z_gr s p) (k + 1) = zcnt (z_gr s p) k + 0 := by
          have q : (z_gr s p) k = false := by simp [z_gr, h20]
          rw [zcnt_s, q]; rfl
        rw [e] at ih
        exact jr_lv [2, 3, 1, 0] rfl ih
      · refine jr_aload_n hg 0 rfl rfl dX8_greens_23 ?_
        refine gf_X8_48 hg (hI 35 (by decide)) dX8_greens_24 ?_
        refine jr_iload_n hg 3 rfl rfl dX8_greens_27 ?_
        refine jr_ialdN hg (n := 200) (by omega) (by decide) (hI 47 (by decide)) (ac_47 _ _) dX8_greens_28 ?_
        refine jr_top ((Rk.2 _ (by omega)).2.2) ?_
        refine jr_iconst hg (nI 3) dX8_greens_29 (by decide) ?_
        refine jr_icmp_neN (tgt := 37) hg dX8_greens_30 (by decide) (by omega) (by omega) (fun h30 => ?_) (fun h30 => ?_)
        · refine jr_iconst hg (nI 0) dX8_greens_37 (by decide) ?_
          refine jr_cS1v hg lk_X8_148 (by decide) (by decide) (Nat.le_of_ble_eq_true rfl) dX8_greens_38 (c_X8_one hI (by decide)) ?_
          refine jr_iaddN hg dX8_greens_41 ?_
          refine jr_istore_n hg dX8_greens_42 rfl (by decide) rfl ?_
          refine jr_iinc hg 3 rfl (nI (_ + 1)) (nI_1 _) dX8_greens_43 (by decide) rfl ?_
          refine jr_goto (tgt := 4) hg dX8_greens_46 (by decide) ?_
          have e : zcnt (z_gr s p) (k + 1) = zcnt (z_gr s p) k + 0 := by
            have q : (z_gr s p) k = false := by simp [z_gr, h30]
            rw [zcnt_s, q]; rfl
          rw [e] at ih
          exact jr_lv [2, 3, 1, 0] rfl ih
        · refine jr_iconst hg (nI 1) dX8_greens_33 (by decide) ?_
          refine jr_goto (tgt := 38) hg dX8_greens_34 (by decide) ?_
          refine jr_cS1v hg lk_X8_148 (by decide) (by decide) (Nat.le_of_ble_eq_true rfl) dX8_greens_38 (c_X8_one hI (by decide)) ?_
          refine jr_iaddN hg dX8_greens_41 ?_
          refine jr_istore_n hg dX8_greens_42 rfl (by decide) rfl ?_
          refine jr_iinc hg 3 rfl (nI (_ + 1)) (nI_1 _) dX8_greens_43 (by decide) rfl ?_
          refine jr_goto (tgt := 4) hg dX8_greens_46 (by decide) ?_
          have e : zcnt (z_gr s p) (k + 1) = zcnt (z_gr s p) k + 1 := by
            have q : (z_gr s p) k = true := by simp [z_gr, h20, h30]
            rw [zcnt_s, q]; rfl
          rw [e] at ih
          exact jr_lv [2, 3, 1, 0] rfl ih
  exact jr_lv [2, 3, 1, 0] rfl (lp4 0 (by omega))

set_option maxRecDepth 100000 in
theorem c_X8_looksBy {E : mm_E} (hI : mm_FR E) {M : mm_M} {s : zS} (hR : zR s M) (hW : zW s) {l : Nat} (hl : l < s 0 1) : mm_Cal E mX8_looksBy [.ref (E.1 35), .int (nI l)] M (ret1 (.int (nI (zcnt (z_by s l) (s 0 2)))) M) := by
  obtain ⟨Rp, Rl, Rk, Rw, Rt, Rd, Ro, Rq⟩ := hR
  obtain ⟨Wp, Wl, Wk, Ww, Wt, Wd, Wo, Wq⟩ := hW
  have hnp := Wp.1
  have hnl := Wl.1
  have hnk := Wk.1
  have rall : zR s M := ⟨Rp, Rl, Rk, Rw, Rt, Rd, Ro, Rq⟩
  have wall : zW s := ⟨Wp, Wl, Wk, Ww, Wt, Wd, Wo, Wq⟩
  refine jr_entry RX8 (by decide +kernel) (Nat.le_of_ble_eq_true rfl) (fun g hg => ?_)
  refine jr_lv (lv' := [(0, .ref (E.1 35)), (1, .int (nI l))]) [0, 1] rfl ?_
  refine jr_iconst hg (nI 0) dX8_looksBy_0 (by decide) ?_
  refine jr_istore_n hg dX8_looksBy_1 rfl (by decide) rfl ?_
  refine jr_iconst hg (nI 0) dX8_looksBy_2 (by decide) ?_
  refine jr_istore_n hg dX8_looksBy_3 rfl (by decide) rfl ?_
  have lp4 : ∀ k : Nat, k ≤ s 0 2 →  mm_J g E mX8_looksBy (ret1 (.int (nI (zcnt (z_by s l) (s 0 2)))) M) 4 [(0, .ref (E.1 35)), (1, .int (nI l)), (2, .int (nI ((zcnt (z_by s l) k)))), (3, .int (nI k))] [] (M) := by
    refine jr_up (S := fun k =>  mm_J g E mX8_looksBy (ret1 (.int (nI (zcnt (z_by s l) (s 0 2)))) M) 4 [(0, .ref (E.1 35)), (1, .int (nI l)), (2, .int (nI ((zcnt (z_by s l) k)))), (3, .int (nI k))] [] (M)) (n := s 0 2) ?_ ?_
    · show mm_J g E mX8_looksBy (ret1 (.int (nI (zcnt (z_by s l) (s 0 2)))) M) 4 [(0, .ref (E.1 35)), (1, .int (nI l)), (2, .int (nI ((zcnt (z_by s l) (s 0 2))))), (3, .int (nI (s 0 2)))] [] (M)
      refine jr_iload_n hg 3 rfl rfl dX8_looksBy_4 ?_
      refine jr_aload_n hg 0 rfl rfl dX8_looksBy_5 ?_
      refine gf_X8_174 hg (hI 35 (by decide)) dX8_looksBy_6 ?_
      refine jr_top (Rk.1) ?_
      refine jr_icmp_geN (tgt := 39) hg dX8_looksBy_9 (by decide) (by omega) (by omega) (fun h9 => ?_) (fun h => by omega)
      refine jr_iload_n hg 2 rfl rfl dX8_looksBy_39 ?_
      exact jr_iret hg rfl dX8_looksBy_40 (⟨rfl, rfl⟩)
    · intro k hk ih 
      show mm_J g E mX8_looksBy (ret1 (.int (nI (zcnt (z_by s l) (s 0 2)))) M) 4 [(0, .ref (E.1 35)), (1, .int (nI l)), (2, .int (nI ((zcnt (z_by s l) k)))), (3, .int (nI k))] [] (M)
      have hlo := Wk.2.1 k hk
      refine jr_iload_n hg 3 rfl rfl dX8_looksBy_4 ?_
      refine jr_aload_n hg 0 rfl rfl dX8_looksBy_5 ?_
      refine gf_X8_174 hg (hI 35 (by decide)) dX8_looksBy_6 ?_
      refine jr_top (Rk.1) ?_
      refine jr_icmp_geN (tgt := 39) hg dX8_looksBy_9 (by decide) (by omega) (by omega) (fun h => by omega) (fun h9 => ?_)
      refine jr_iload_n hg 2 rfl rfl dX8_looksBy_12 ?_
      refine jr_aload_n hg 0 rfl rfl dX8_looksBy_13 ?_
      refine gf_X8_42 hg (hI 35 (by decide)) dX8_looksBy_14 ?_
      refine jr_iload_n hg 3 rfl rfl dX8_looksBy_17 ?_
      refine jr_ialdN hg (n := 200) (by omega) (by decide) (hI 45 (by decide)) (ac_45 _ _) dX8_looksBy_18 ?_
      refine jr_top ((Rk.2 _ (by omega)).1) ?_
      refine jr_iload_n hg 1 rfl rfl dX8_looksBy_19 ?_
      refine jr_icmp_neN (tgt := 27) hg dX8_looksBy_20 (by decide) (by omega) (by omega) (fun h20 => ?_) (fun h20 => ?_)
      · refine jr_iconst hg (nI 0) dX8_looksBy_27 (by decide) ?_
        refine jr_cS1v hg lk_X8_148 (by decide) (by decide) (Nat.le_of_ble_eq_true rfl) dX8_looksBy_28 (c_X8_one hI (by decide)) ?_
        refine jr_iaddN hg dX8_looksBy_31 ?_
        refine jr_istore_n hg dX8_looksBy_32 rfl (by decide) rfl ?_
        refine jr_iinc hg 3 rfl (nI (_ + 1)) (nI_1 _) dX8_looksBy_33 (by decide) rfl ?_
        refine jr_goto (tgt := 4) hg dX8_looksBy_36 (by decide) ?_
        have e : zcnt (z_by s l) (k + 1) = zcnt (z_by s l) k + 0 := by
          have q : (z_by s l) k = false := by simp [z_by, h20]
          rw [zcnt_s, q]; rfl
        rw [e] at ih
        exact jr_lv [2, 3, 1, 0] rfl ih
      · refine jr_iconst hg (nI 1) dX8_looksBy_23 (by decide) ?_
        refine jr_goto (tgt := 28) hg dX8_looksBy_24 (by decide) ?_
        refine jr_cS1v hg lk_X8_148 (by decide) (by decide) (Nat.le_of_ble_eq_true rfl) dX8_looksBy_28 (c_X8_one hI (by decide)) ?_
        refine jr_iaddN hg dX8_looksBy_31 ?_
        refine jr_istore_n hg dX8_looksBy_32 rfl (by decide) rfl ?_
        refine jr_iinc hg 3 rfl (nI (_ + 1)) (nI_1 _) dX8_looksBy_33 (by decide) rfl ?_
        refine jr_goto (tgt := 4) hg dX8_looksBy_36 (by decide) ?_
        have e : zcnt (z_by s l) (k + 1) = zcnt (z_by s l) k + 1 := by
          have q : (z_by s l) k = true := by simp [z_by, h20]
          rw [zcnt_s, q]; rfl
        rw [e] at ih
        exact jr_lv [2, 3, 1, 0] rfl ih
  exact jr_lv [2, 3, 1, 0] rfl (lp4 0 (by omega))

def z_gok (s : zS) (p : Nat) : Nat → Nat
  | 0 => s 12 (3 * p)
  | k + 1 => if z_gok s p k < s 12 (3 * p + (k + 1)) then s 12 (3 * p + (k + 1)) else z_gok s p k
theorem z_gok_2 (s : zS) (p : Nat) : z_gok s p 2 = z_go s p := by
  rw [z_gok, z_gok, z_gok, z_go, show 3 * p + (0 + 1) = 3 * p + 1 from rfl, show 3 * p + (1 + 1) = 3 * p + 2 from rfl]
  by_cases h : s 12 (3 * p) < s 12 (3 * p + 1)
  · rw [if_pos h]; split <;> omega
  · rw [if_neg h]; split <;> omega
theorem z_gok_le {s : zS} (h : zW_o s) {p : Nat} (hp : p < 24) : ∀ k, k ≤ 2 → z_gok s p k ≤ 1000 := by
  intro k
  induction k with
  | zero => intro _; exact h.1 _ (by omega)
  | succ k ih =>
    intro hk
    have := ih (by omega)
    have := h.1 (3 * p + (k + 1)) (by omega)
    rw [z_gok]; split <;> omega

set_option maxRecDepth 100000 in
theorem c_X8_greatestOdds {E : mm_E} (hI : mm_FR E) {M : mm_M} {s : zS} (hR : zR s M) (hW : zW s) {p : Nat} (hp : p < s 0 0) : mm_Cal E mX8_greatestOdds [.ref (E.1 35), .int (nI p)] M (ret1 (.int (nI (z_go s p))) M) := by
  obtain ⟨Rp, Rl, Rk, Rw, Rt, Rd, Ro, Rq⟩ := hR
  obtain ⟨Wp, Wl, Wk, Ww, Wt, Wd, Wo, Wq⟩ := hW
  have hnp := Wp.1
  have hnl := Wl.1
  have hnk := Wk.1
  have rall : zR s M := ⟨Rp, Rl, Rk, Rw, Rt, Rd, Ro, Rq⟩
  have wall : zW s := ⟨Wp, Wl, Wk, Ww, Wt, Wd, Wo, Wq⟩
  refine jr_entry RX8 (by decide +kernel) (Nat.le_of_ble_eq_true rfl) (fun g hg => ?_)
  refine jr_lv (lv' := [(0, .ref (E.1 35)), (1, .int (nI p))]) [0, 1] rfl ?_
  refine jr_aload_n hg 0 rfl rfl dX8_greatestOdds_0 ?_
  refine gf_X8_51 hg (hI 35 (by decide)) dX8_greatestOdds_1 ?_
  refine jr_iconst hg (nI 3) dX8_greatestOdds_4 (by decide) ?_
  refine jr_iload_n hg 1 rfl rfl dX8_greatestOdds_5 ?_
  refine jr_imulN hg dX8_greatestOdds_6 ?_
  refine jr_ialdN hg (n := 72) (by omega) (by decide) (hI 48 (by decide)) (ac_48 _ _) dX8_greatestOdds_7 ?_
  refine jr_top (Ro.1 _ (by omega)) ?_
  refine jr_istore_n hg dX8_greatestOdds_8 rfl (by decide) rfl ?_
  refine jr_iconst hg (nI 1) dX8_greatestOdds_9 (by decide) ?_
  refine jr_istore_n hg dX8_greatestOdds_10 rfl (by decide) rfl ?_
  have lp11 : ∀ k : Nat, k ≤ 2 →  mm_J g E mX8_greatestOdds (ret1 (.int (nI (z_go s p))) M) 11 [(0, .ref (E.1 35)), (1, .int (nI p)), (2, .int (nI ((z_gok s p k)))), (3, .int (nI ((k + 1))))] [] (M) := by
    refine jr_up (S := fun k =>  mm_J g E mX8_greatestOdds (ret1 (.int (nI (z_go s p))) M) 11 [(0, .ref (E.1 35)), (1, .int (nI p)), (2, .int (nI ((z_gok s p k)))), (3, .int (nI ((k + 1))))] [] (M)) (n := 2) ?_ ?_
    · show mm_J g E mX8_greatestOdds (ret1 (.int (nI (z_go s p))) M) 11 [(0, .ref (E.1 35)), (1, .int (nI p)), (2, .int (nI ((z_gok s p (2))))), (3, .int (nI (((2) + 1))))] [] (M)
      refine jr_iload_n hg 3 rfl rfl dX8_greatestOdds_11 ?_
      refine jr_iconst hg (nI 3) dX8_greatestOdds_12 (by decide) ?_
      refine jr_icmp_geN (tgt := 51) hg dX8_greatestOdds_13 (by decide) (by omega) (by omega) (fun h13 => ?_) (fun h => by omega)
      refine jr_iload_n hg 2 rfl rfl dX8_greatestOdds_51 ?_
      exact jr_iret hg rfl dX8_greatestOdds_52 (⟨by rw [z_gok_2], rfl⟩)
    · intro k hk ih 
      show mm_J g E mX8_greatestOdds (ret1 (.int (nI (z_go s p))) M) 11 [(0, .ref (E.1 35)), (1, .int (nI p)), (2, .int (nI ((z_gok s p k)))), (3, .int (nI ((k + 1))))] [] (M)
      have g1 := z_gok_le Wo (p := p) (by omega) k (by omega)
      have g2 := Wo.1 (3 * p + (k + 1)) (by omega)
      refine jr_iload_n hg 3 rfl rfl dX8_greatestOdds_11 ?_
      refine jr_iconst hg (nI 3) dX8_greatestOdds_12 (by decide) ?_
      refine jr_icmp_geN (tgt := 51) hg dX8_greatestOdds_13 (by decide) (by omega) (by omega) (fun h => by omega) (fun h13 => ?_)
      refine jr_aload_n hg 0 rfl rfl dX8_greatestOdds_16 ?_
      refine gf_X8_51 hg (hI 35 (by decide)) dX8_greatestOdds_17 ?_
      refine jr_iconst hg (nI 3) dX8_greatestOdds_20 (by decide) ?_
      refine jr_iload_n hg 1 rfl rfl dX8_greatestOdds_21 ?_
      refine jr_imulN hg dX8_greatestOdds_22 ?_
      refine jr_iload_n hg 3 rfl rfl dX8_greatestOdds_23 ?_
      refine jr_iaddN hg dX8_greatestOdds_24 ?_
      refine jr_ialdN hg (n := 72) (by omega) (by decide) (hI 48 (by decide)) (ac_48 _ _) dX8_greatestOdds_25 ?_
      refine jr_top (Ro.1 _ (by omega)) ?_
      refine jr_iload_n hg 2 rfl rfl dX8_greatestOdds_26 ?_
      refine jr_icmp_leN (tgt := 43) hg dX8_greatestOdds_27 (by decide) (by omega) (by omega) (fun h27 => ?_) (fun h27 => ?_)
      · refine jr_iload_n hg 2 rfl rfl dX8_greatestOdds_43 ?_
        refine jr_istore_n hg dX8_greatestOdds_44 rfl (by decide) rfl ?_
        refine jr_iinc hg 3 rfl (nI (_ + 1)) (nI_1 _) dX8_greatestOdds_45 (by decide) rfl ?_
        refine jr_goto (tgt := 11) hg dX8_greatestOdds_48 (by decide) ?_
        have e : z_gok s p (k + 1) = z_gok s p k := by rw [z_gok, if_neg (by omega)]
        rw [e] at ih
        exact jr_lv [2, 3, 1, 0] rfl ih
      · refine jr_aload_n hg 0 rfl rfl dX8_greatestOdds_30 ?_
        refine gf_X8_51 hg (hI 35 (by decide)) dX8_greatestOdds_31 ?_
        refine jr_iconst hg (nI 3) dX8_greatestOdds_34 (by decide) ?_
        refine jr_iload_n hg 1 rfl rfl dX8_greatestOdds_35 ?_
        refine jr_imulN hg dX8_greatestOdds_36 ?_
        refine jr_iload_n hg 3 rfl rfl dX8_greatestOdds_37 ?_
        refine jr_iaddN hg dX8_greatestOdds_38 ?_
        refine jr_ialdN hg (n := 72) (by omega) (by decide) (hI 48 (by decide)) (ac_48 _ _) dX8_greatestOdds_39 ?_
        refine jr_top (Ro.1 _ (by omega)) ?_
        refine jr_goto (tgt := 44) hg dX8_greatestOdds_40 (by decide) ?_
        refine jr_istore_n hg dX8_greatestOdds_44 rfl (by decide) rfl ?_
        refine jr_iinc hg 3 rfl (nI (_ + 1)) (nI_1 _) dX8_greatestOdds_45 (by decide) rfl ?_
        refine jr_goto (tgt := 11) hg dX8_greatestOdds_48 (by decide) ?_
        have e : z_gok s p (k + 1) = s 12 (3 * p + (k + 1)) := by rw [z_gok, if_pos (by omega)]
        rw [e] at ih
        exact jr_lv [2, 3, 1, 0] rfl ih
  exact jr_lv [2, 3, 1, 0] rfl (lp11 0 (by omega))

set_option maxRecDepth 100000 in
theorem c_X8_isDone {E : mm_E} (hI : mm_FR E) {M : mm_M} {s : zS} (hR : zR s M) (hW : zW s) {p : Nat} (hp : p < s 0 0) : mm_Cal E mX8_isDone [.ref (E.1 35), .int (nI p)] M (ret1 (.int (nI (z_dn s p).toNat)) M) := by
  obtain ⟨Rp, Rl, Rk, Rw, Rt, Rd, Ro, Rq⟩ := hR
  obtain ⟨Wp, Wl, Wk, Ww, Wt, Wd, Wo, Wq⟩ := hW
  have hnp := Wp.1
  have hnl := Wl.1
  have hnk := Wk.1
  have rall : zR s M := ⟨Rp, Rl, Rk, Rw, Rt, Rd, Ro, Rq⟩
  have wall : zW s := ⟨Wp, Wl, Wk, Ww, Wt, Wd, Wo, Wq⟩
  have g1 := z_go_le Wo (p := p) (by omega)
  have g2 := zcnt_le (z_of s p) (s 0 2)
  have g3 := zW_w100 Ww 4 (by decide)
  have g4 := zW_w100 Ww 5 (by decide)
  refine jr_entry RX8 (by decide +kernel) (Nat.le_of_ble_eq_true rfl) (fun g hg => ?_)
  refine jr_lv (lv' := [(0, .ref (E.1 35)), (1, .int (nI p))]) [0, 1] rfl ?_
  refine jr_aload_n hg 0 rfl rfl dX8_isDone_0 ?_
  refine jr_iload_n hg 1 rfl rfl dX8_isDone_1 ?_
  refine jr_cV1v hg lk_X8_177 (hI 35 (by decide)) rfl rfl (by decide) (by decide) (Nat.le_of_ble_eq_true rfl) dX8_isDone_2 (c_X8_greatestOdds hI rall wall hp) ?_
  refine jr_bipush hg (nI 10) dX8_isDone_5 (by decide) ?_
  refine jr_aload_n hg 0 rfl rfl dX8_isDone_7 ?_
  refine gf_X8_7 hg (hI 35 (by decide)) dX8_isDone_8 ?_
  refine jr_iconst hg (nI 4) dX8_isDone_11 (by decide) ?_
  refine jr_ialdN hg (n := 8) (by omega) (by decide) (hI 36 (by decide)) (ac_36 _ _) dX8_isDone_12 ?_
  refine jr_top (Rw _ (by omega)) ?_
  refine jr_imulN hg dX8_isDone_13 ?_
  refine jr_icmp_geN (tgt := 31) hg dX8_isDone_14 (by decide) (by omega) (by omega) (fun h14 => ?_) (fun h14 => ?_)
  · refine jr_iconst hg (nI 1) dX8_isDone_31 (by decide) ?_
    refine jr_goto (tgt := 36) hg dX8_isDone_32 (by decide) ?_
    exact jr_zret hg rfl (by first | exact Or.inl rfl | exact Or.inr rfl | exact z01 _) dX8_isDone_36 (⟨by rw [z_dn, decide_eq_true (Or.inl (by omega))]; rfl, rfl⟩)
  · refine jr_aload_n hg 0 rfl rfl dX8_isDone_17 ?_
    refine jr_iload_n hg 1 rfl rfl dX8_isDone_18 ?_
    refine jr_cV1v hg lk_X8_180 (hI 35 (by decide)) rfl rfl (by decide) (by decide) (Nat.le_of_ble_eq_true rfl) dX8_isDone_19 (c_X8_looksAt hI rall wall hp) ?_
    refine jr_aload_n hg 0 rfl rfl dX8_isDone_22 ?_
    refine gf_X8_7 hg (hI 35 (by decide)) dX8_isDone_23 ?_
    refine jr_iconst hg (nI 5) dX8_isDone_26 (by decide) ?_
    refine jr_ialdN hg (n := 8) (by omega) (by decide) (hI 36 (by decide)) (ac_36 _ _) dX8_isDone_27 ?_
    refine jr_top (Rw _ (by omega)) ?_
    refine jr_icmp_ltN (tgt := 35) hg dX8_isDone_28 (by decide) (by omega) (by omega) (fun h28 => ?_) (fun h28 => ?_)
    · refine jr_iconst hg (nI 0) dX8_isDone_35 (by decide) ?_
      exact jr_zret hg rfl (by first | exact Or.inl rfl | exact Or.inr rfl | exact z01 _) dX8_isDone_36 (⟨by rw [z_dn, decide_eq_false (by omega)]; rfl, rfl⟩)
    · refine jr_iconst hg (nI 1) dX8_isDone_31 (by decide) ?_
      refine jr_goto (tgt := 36) hg dX8_isDone_32 (by decide) ?_
      exact jr_zret hg rfl (by first | exact Or.inl rfl | exact Or.inr rfl | exact z01 _) dX8_isDone_36 (⟨by rw [z_dn, decide_eq_true (Or.inr (by omega))]; rfl, rfl⟩)

set_option maxRecDepth 100000 in
theorem c_X8_knownMany {E : mm_E} (hI : mm_FR E) {M : mm_M} {s : zS} (hR : zR s M) (hW : zW s) : mm_Cal E mX8_knownMany [.ref (E.1 35)] M (ret1 (.int (nI (zsum (s 4) (s 0 0)))) M) := by
  obtain ⟨Rp, Rl, Rk, Rw, Rt, Rd, Ro, Rq⟩ := hR
  obtain ⟨Wp, Wl, Wk, Ww, Wt, Wd, Wo, Wq⟩ := hW
  have hnp := Wp.1
  have hnl := Wl.1
  have hnk := Wk.1
  have rall : zR s M := ⟨Rp, Rl, Rk, Rw, Rt, Rd, Ro, Rq⟩
  have wall : zW s := ⟨Wp, Wl, Wk, Ww, Wt, Wd, Wo, Wq⟩
  refine jr_entry RX8 (by decide +kernel) (Nat.le_of_ble_eq_true rfl) (fun g hg => ?_)
  refine jr_lv (lv' := [(0, .ref (E.1 35))]) [0] rfl ?_
  refine jr_iconst hg (nI 0) dX8_knownMany_0 (by decide) ?_
  refine jr_istore_n hg dX8_knownMany_1 rfl (by decide) rfl ?_
  refine jr_iconst hg (nI 0) dX8_knownMany_2 (by decide) ?_
  refine jr_istore_n hg dX8_knownMany_3 rfl (by decide) rfl ?_
  have lp4 : ∀ p : Nat, p ≤ s 0 0 →  mm_J g E mX8_knownMany (ret1 (.int (nI (zsum (s 4) (s 0 0)))) M) 4 [(0, .ref (E.1 35)), (1, .int (nI ((zsum (s 4) p)))), (2, .int (nI p))] [] (M) := by
    refine jr_up (S := fun p =>  mm_J g E mX8_knownMany (ret1 (.int (nI (zsum (s 4) (s 0 0)))) M) 4 [(0, .ref (E.1 35)), (1, .int (nI ((zsum (s 4) p)))), (2, .int (nI p))] [] (M)) (n := s 0 0) ?_ ?_
    · show mm_J g E mX8_knownMany (ret1 (.int (nI (zsum (s 4) (s 0 0)))) M) 4 [(0, .ref (E.1 35)), (1, .int (nI ((zsum (s 4) (s 0 0))))), (2, .int (nI (s 0 0)))] [] (M)
      refine jr_iload_n hg 2 rfl rfl dX8_knownMany_4 ?_
      refine jr_aload_n hg 0 rfl rfl dX8_knownMany_5 ?_
      refine gf_X8_154 hg (hI 35 (by decide)) dX8_knownMany_6 ?_
      refine jr_top (Rp.1) ?_
      refine jr_icmp_geN (tgt := 30) hg dX8_knownMany_9 (by decide) (by omega) (by omega) (fun h9 => ?_) (fun h => by omega)
      refine jr_iload_n hg 1 rfl rfl dX8_knownMany_30 ?_
      exact jr_iret hg rfl dX8_knownMany_31 (⟨rfl, rfl⟩)
    · intro p hp ih 
      show mm_J g E mX8_knownMany (ret1 (.int (nI (zsum (s 4) (s 0 0)))) M) 4 [(0, .ref (E.1 35)), (1, .int (nI ((zsum (s 4) p)))), (2, .int (nI p))] [] (M)
      refine jr_iload_n hg 2 rfl rfl dX8_knownMany_4 ?_
      refine jr_aload_n hg 0 rfl rfl dX8_knownMany_5 ?_
      refine gf_X8_154 hg (hI 35 (by decide)) dX8_knownMany_6 ?_
      refine jr_top (Rp.1) ?_
      refine jr_icmp_geN (tgt := 30) hg dX8_knownMany_9 (by decide) (by omega) (by omega) (fun h => by omega) (fun h9 => ?_)
      refine jr_iload_n hg 1 rfl rfl dX8_knownMany_12 ?_
      refine jr_aload_n hg 0 rfl rfl dX8_knownMany_13 ?_
      refine gf_X8_32 hg (hI 35 (by decide)) dX8_knownMany_14 ?_
      refine jr_iload_n hg 2 rfl rfl dX8_knownMany_17 ?_
      refine jr_zaldN hg (n := 24) (by omega) (by decide) (hI 42 (by decide)) (ac_42 _ _) dX8_knownMany_18 ?_
      refine jr_top ((Rp.2 _ (by omega)).2.2.2.1) ?_
      refine jr_cS1v hg lk_X8_148 (by decide) (by decide) (Nat.le_of_ble_eq_true rfl) dX8_knownMany_19 (c_X8_one hI (Wp.2 p hp).2.2.2.1) ?_
      refine jr_iaddN hg dX8_knownMany_22 ?_
      refine jr_istore_n hg dX8_knownMany_23 rfl (by decide) rfl ?_
      refine jr_iinc hg 2 rfl (nI (_ + 1)) (nI_1 _) dX8_knownMany_24 (by decide) rfl ?_
      refine jr_goto (tgt := 4) hg dX8_knownMany_27 (by decide) ?_
      exact jr_lv [2, 1, 0] rfl ih
  exact jr_lv [2, 1, 0] rfl (lp4 0 (by omega))

theorem zmv_sgn {m : Nat} (h : m < 2 ^ 31) : zmv m < 0 ↔ m = 0 := by
  cases m with
  | zero => exact ⟨fun _ => rfl, fun _ => zm1⟩
  | succ m => rw [zmv_s]; exact ⟨fun q => absurd q (nI_pos (by omega)), fun q => by omega⟩
theorem zmv_sgn' {m : Nat} (h : m < 2 ^ 31) : 0 ≤ zmv m ↔ m ≠ 0 := by
  cases m with
  | zero => exact ⟨fun q => absurd zm1 (fun r => zlt_nle r q), fun q => absurd rfl q⟩
  | succ m => rw [zmv_s]; exact ⟨fun _ => by omega, fun _ => nI_pos' (by omega)⟩

set_option maxRecDepth 100000 in
theorem c_X8_mirrors {E : mm_E} (hI : mm_FR E) {M : mm_M} {s : zS} (hR : zR s M) (hW : zW s) : mm_Cal E mX8_mirrors [.ref (E.1 35)] M (ret1 (.int (nI (zcnt (z_mi s) (s 0 0)))) M) := by
  obtain ⟨Rp, Rl, Rk, Rw, Rt, Rd, Ro, Rq⟩ := hR
  obtain ⟨Wp, Wl, Wk, Ww, Wt, Wd, Wo, Wq⟩ := hW
  have hnp := Wp.1
  have hnl := Wl.1
  have hnk := Wk.1
  have rall : zR s M := ⟨Rp, Rl, Rk, Rw, Rt, Rd, Ro, Rq⟩
  have wall : zW s := ⟨Wp, Wl, Wk, Ww, Wt, Wd, Wo, Wq⟩
  refine jr_entry RX8 (by decide +kernel) (Nat.le_of_ble_eq_true rfl) (fun g hg => ?_)
  refine jr_lv (lv' := [(0, .ref (E.1 35))]) [0] rfl ?_
  refine jr_iconst hg (nI 0) dX8_mirrors_0 (by decide) ?_
  refine jr_istore_n hg dX8_mirrors_1 rfl (by decide) rfl ?_
  refine jr_iconst hg (nI 0) dX8_mirrors_2 (by decide) ?_
  refine jr_istore_n hg dX8_mirrors_3 rfl (by decide) rfl ?_
  have lp4 : ∀ p : Nat, p ≤ s 0 0 →  mm_J g E mX8_mirrors (ret1 (.int (nI (zcnt (z_mi s) (s 0 0)))) M) 4 [(0, .ref (E.1 35)), (1, .int (nI ((zcnt (z_mi s) p)))), (2, .int (nI p))] [] (M) := by
    refine jr_up (S := fun p =>  mm_J g E mX8_mirrors (ret1 (.int (nI (zcnt (z_mi s) (s 0 0)))) M) 4 [(0, .ref (E.1 35)), (1, .int (nI ((zcnt (z_mi s) p)))), (2, .int (nI p))] [] (M)) (n := s 0 0) ?_ ?_
    · show mm_J g E mX8_mirrors (ret1 (.int (nI (zcnt (z_mi s) (s 0 0)))) M) 4 [(0, .ref (E.1 35)), (1, .int (nI ((zcnt (z_mi s) (s 0 0))))), (2, .int (nI (s 0 0)))] [] (M)
      refine jr_iload_n hg 2 rfl rfl dX8_mirrors_4 ?_
      refine jr_aload_n hg 0 rfl rfl dX8_mirrors_5 ?_
      refine gf_X8_154 hg (hI 35 (by decide)) dX8_mirrors_6 ?_
      refine jr_top (Rp.1) ?_
      refine jr_icmp_geN (tgt := 38) hg dX8_mirrors_9 (by decide) (by omega) (by omega) (fun h9 => ?_) (fun h => by omega)
      refine jr_iload_n hg 1 rfl rfl dX8_mirrors_38 ?_
      exact jr_iret hg rfl dX8_mirrors_39 (⟨rfl, rfl⟩)
    · intro p hp ih 
      show mm_J g E mX8_mirrors (ret1 (.int (nI (zcnt (z_mi s) (s 0 0)))) M) 4 [(0, .ref (E.1 35)), (1, .int (nI ((zcnt (z_mi s) p)))), (2, .int (nI p))] [] (M)
      have hm := zmv_sgn (zW_mo Wp hp)
      refine jr_iload_n hg 2 rfl rfl dX8_mirrors_4 ?_
      refine jr_aload_n hg 0 rfl rfl dX8_mirrors_5 ?_
      refine gf_X8_154 hg (hI 35 (by decide)) dX8_mirrors_6 ?_
      refine jr_top (Rp.1) ?_
      refine jr_icmp_geN (tgt := 38) hg dX8_mirrors_9 (by decide) (by omega) (by omega) (fun h => by omega) (fun h9 => ?_)
      refine jr_iload_n hg 1 rfl rfl dX8_mirrors_12 ?_
      refine jr_aload_n hg 0 rfl rfl dX8_mirrors_13 ?_
      refine gf_X8_36 hg (hI 35 (by decide)) dX8_mirrors_14 ?_
      refine jr_iload_n hg 2 rfl rfl dX8_mirrors_17 ?_
      refine jr_ialdN hg (n := 24) (by omega) (by decide) (hI 43 (by decide)) (ac_43 _ _) dX8_mirrors_18 ?_
      refine jr_top ((Rp.2 _ (by omega)).2.2.2.2) ?_
      refine jr_if_lt (tgt := 26) hg dX8_mirrors_19 (by decide) (fun h19 => ?_) (fun h19 => ?_)
      · refine jr_iconst hg (nI 0) dX8_mirrors_26 (by decide) ?_
        refine jr_cS1v hg lk_X8_148 (by decide) (by decide) (Nat.le_of_ble_eq_true rfl) dX8_mirrors_27 (c_X8_one hI (by decide)) ?_
        refine jr_iaddN hg dX8_mirrors_30 ?_
        refine jr_istore_n hg dX8_mirrors_31 rfl (by decide) rfl ?_
        refine jr_iinc hg 2 rfl (nI (_ + 1)) (nI_1 _) dX8_mirrors_32 (by decide) rfl ?_
        refine jr_goto (tgt := 4) hg dX8_mirrors_35 (by decide) ?_
        have e : zcnt (z_mi s) (p + 1) = zcnt (z_mi s) p + 0 := by
          have q : (z_mi s) p = false := by have z := hm.mp h19; simp [z_mi, z]
          rw [zcnt_s, q]; rfl
        rw [e] at ih
        exact jr_lv [2, 1, 0] rfl ih
      · refine jr_iconst hg (nI 1) dX8_mirrors_22 (by decide) ?_
        refine jr_goto (tgt := 27) hg dX8_mirrors_23 (by decide) ?_
        refine jr_cS1v hg lk_X8_148 (by decide) (by decide) (Nat.le_of_ble_eq_true rfl) dX8_mirrors_27 (c_X8_one hI (by decide)) ?_
        refine jr_iaddN hg dX8_mirrors_30 ?_
        refine jr_istore_n hg dX8_mirrors_31 rfl (by decide) rfl ?_
        refine jr_iinc hg 2 rfl (nI (_ + 1)) (nI_1 _) dX8_mirrors_32 (by decide) rfl ?_
        refine jr_goto (tgt := 4) hg dX8_mirrors_35 (by decide) ?_
        have e : zcnt (z_mi s) (p + 1) = zcnt (z_mi s) p + 1 := by
          have q : (z_mi s) p = true := by have z : s 5 p ≠ 0 := fun q => h19 (hm.mpr q); simp [z_mi, z]
          rw [zcnt_s, q]; rfl
        rw [e] at ih
        exact jr_lv [2, 1, 0] rfl ih
  exact jr_lv [2, 1, 0] rfl (lp4 0 (by omega))

set_option maxRecDepth 100000 in
theorem c_X8_doneMany {E : mm_E} (hI : mm_FR E) {M : mm_M} {s : zS} (hR : zR s M) (hW : zW s) : mm_Cal E mX8_doneMany [.ref (E.1 35)] M (ret1 (.int (nI (zcnt (z_dn s) (s 0 0)))) M) := by
  obtain ⟨Rp, Rl, Rk, Rw, Rt, Rd, Ro, Rq⟩ := hR
  obtain ⟨Wp, Wl, Wk, Ww, Wt, Wd, Wo, Wq⟩ := hW
  have hnp := Wp.1
  have hnl := Wl.1
  have hnk := Wk.1
  have rall : zR s M := ⟨Rp, Rl, Rk, Rw, Rt, Rd, Ro, Rq⟩
  have wall : zW s := ⟨Wp, Wl, Wk, Ww, Wt, Wd, Wo, Wq⟩
  refine jr_entry RX8 (by decide +kernel) (Nat.le_of_ble_eq_true rfl) (fun g hg => ?_)
  refine jr_lv (lv' := [(0, .ref (E.1 35))]) [0] rfl ?_
  refine jr_iconst hg (nI 0) dX8_doneMany_0 (by decide) ?_
  refine jr_istore_n hg dX8_doneMany_1 rfl (by decide) rfl ?_
  refine jr_iconst hg (nI 0) dX8_doneMany_2 (by decide) ?_
  refine jr_istore_n hg dX8_doneMany_3 rfl (by decide) rfl ?_
  have lp4 : ∀ p : Nat, p ≤ s 0 0 →  mm_J g E mX8_doneMany (ret1 (.int (nI (zcnt (z_dn s) (s 0 0)))) M) 4 [(0, .ref (E.1 35)), (1, .int (nI ((zcnt (z_dn s) p)))), (2, .int (nI p))] [] (M) := by
    refine jr_up (S := fun p =>  mm_J g E mX8_doneMany (ret1 (.int (nI (zcnt (z_dn s) (s 0 0)))) M) 4 [(0, .ref (E.1 35)), (1, .int (nI ((zcnt (z_dn s) p)))), (2, .int (nI p))] [] (M)) (n := s 0 0) ?_ ?_
    · show mm_J g E mX8_doneMany (ret1 (.int (nI (zcnt (z_dn s) (s 0 0)))) M) 4 [(0, .ref (E.1 35)), (1, .int (nI ((zcnt (z_dn s) (s 0 0))))), (2, .int (nI (s 0 0)))] [] (M)
      refine jr_iload_n hg 2 rfl rfl dX8_doneMany_4 ?_
      refine jr_aload_n hg 0 rfl rfl dX8_doneMany_5 ?_
      refine gf_X8_154 hg (hI 35 (by decide)) dX8_doneMany_6 ?_
      refine jr_top (Rp.1) ?_
      refine jr_icmp_geN (tgt := 29) hg dX8_doneMany_9 (by decide) (by omega) (by omega) (fun h9 => ?_) (fun h => by omega)
      refine jr_iload_n hg 1 rfl rfl dX8_doneMany_29 ?_
      exact jr_iret hg rfl dX8_doneMany_30 (⟨rfl, rfl⟩)
    · intro p hp ih 
      show mm_J g E mX8_doneMany (ret1 (.int (nI (zcnt (z_dn s) (s 0 0)))) M) 4 [(0, .ref (E.1 35)), (1, .int (nI ((zcnt (z_dn s) p)))), (2, .int (nI p))] [] (M)
      refine jr_iload_n hg 2 rfl rfl dX8_doneMany_4 ?_
      refine jr_aload_n hg 0 rfl rfl dX8_doneMany_5 ?_
      refine gf_X8_154 hg (hI 35 (by decide)) dX8_doneMany_6 ?_
      refine jr_top (Rp.1) ?_
      refine jr_icmp_geN (tgt := 29) hg dX8_doneMany_9 (by decide) (by omega) (by omega) (fun h => by omega) (fun h9 => ?_)
      refine jr_iload_n hg 1 rfl rfl dX8_doneMany_12 ?_
      refine jr_aload_n hg 0 rfl rfl dX8_doneMany_13 ?_
      refine jr_iload_n hg 2 rfl rfl dX8_doneMany_14 ?_
      refine jr_cV1v hg lk_X8_186 (hI 35 (by decide)) rfl rfl (by decide) (by decide) (Nat.le_of_ble_eq_true rfl) dX8_doneMany_15 (c_X8_isDone hI rall wall hp) ?_
      refine jr_cS1v hg lk_X8_148 (by decide) (by decide) (Nat.le_of_ble_eq_true rfl) dX8_doneMany_18 (c_X8_one hI (Bool.toNat_le _)) ?_
      refine jr_iaddN hg dX8_doneMany_21 ?_
      refine jr_istore_n hg dX8_doneMany_22 rfl (by decide) rfl ?_
      refine jr_iinc hg 2 rfl (nI (_ + 1)) (nI_1 _) dX8_doneMany_23 (by decide) rfl ?_
      refine jr_goto (tgt := 4) hg dX8_doneMany_26 (by decide) ?_
      exact jr_lv [2, 1, 0] rfl ih
  exact jr_lv [2, 1, 0] rfl (lp4 0 (by omega))

set_option maxRecDepth 100000 in
theorem c_X8_lookOf {E : mm_E} (hI : mm_FR E) {M : mm_M} {s : zS} (hR : zR s M) (hW : zW s) {l : Nat} (hl : l < s 0 1) {p : Nat} (hp : p < s 0 0) : mm_Cal E mX8_lookOf [.ref (E.1 35), .int (nI l), .int (nI p)] M (ret1 (.int (zmv (zfind (z_at s l p) (s 0 2)))) M) := by
  obtain ⟨Rp, Rl, Rk, Rw, Rt, Rd, Ro, Rq⟩ := hR
  obtain ⟨Wp, Wl, Wk, Ww, Wt, Wd, Wo, Wq⟩ := hW
  have hnp := Wp.1
  have hnl := Wl.1
  have hnk := Wk.1
  have rall : zR s M := ⟨Rp, Rl, Rk, Rw, Rt, Rd, Ro, Rq⟩
  have wall : zW s := ⟨Wp, Wl, Wk, Ww, Wt, Wd, Wo, Wq⟩
  refine jr_entry RX8 (by decide +kernel) (Nat.le_of_ble_eq_true rfl) (fun g hg => ?_)
  refine jr_lv (lv' := [(0, .ref (E.1 35)), (1, .int (nI l)), (2, .int (nI p))]) [0, 1, 2] rfl ?_
  refine jr_iconst hg (nI 0) dX8_lookOf_0 (by decide) ?_
  refine jr_istore_n hg dX8_lookOf_1 rfl (by decide) rfl ?_
  have lp2 : ∀ k : Nat, k ≤ s 0 2 → zfind (z_at s l p) k = 0 → mm_J g E mX8_lookOf (ret1 (.int (zmv (zfind (z_at s l p) (s 0 2)))) M) 2 [(0, .ref (E.1 35)), (1, .int (nI l)), (2, .int (nI p)), (3, .int (nI k))] [] (M) := by
    refine jr_up (S := fun k => zfind (z_at s l p) k = 0 → mm_J g E mX8_lookOf (ret1 (.int (zmv (zfind (z_at s l p) (s 0 2)))) M) 2 [(0, .ref (E.1 35)), (1, .int (nI l)), (2, .int (nI p)), (3, .int (nI k))] [] (M)) (n := s 0 2) ?_ ?_
    · intro hz
      show mm_J g E mX8_lookOf (ret1 (.int (zmv (zfind (z_at s l p) (s 0 2)))) M) 2 [(0, .ref (E.1 35)), (1, .int (nI l)), (2, .int (nI p)), (3, .int (nI (s 0 2)))] [] (M)
      refine jr_iload_n hg 3 rfl rfl dX8_lookOf_2 ?_
      refine jr_aload_n hg 0 rfl rfl dX8_lookOf_3 ?_
      refine gf_X8_174 hg (hI 35 (by decide)) dX8_lookOf_4 ?_
      refine jr_top (Rk.1) ?_
      refine jr_icmp_geN (tgt := 38) hg dX8_lookOf_7 (by decide) (by omega) (by omega) (fun h7 => ?_) (fun h => by omega)
      refine jr_iconst hg (-1) dX8_lookOf_38 (by decide) ?_
      exact jr_iret hg rfl dX8_lookOf_39 (⟨by rw [hz]; rfl, rfl⟩)
    · intro k hk ih hz
      show mm_J g E mX8_lookOf (ret1 (.int (zmv (zfind (z_at s l p) (s 0 2)))) M) 2 [(0, .ref (E.1 35)), (1, .int (nI l)), (2, .int (nI p)), (3, .int (nI k))] [] (M)
      have hlo := Wk.2.1 k hk
      refine jr_iload_n hg 3 rfl rfl dX8_lookOf_2 ?_
      refine jr_aload_n hg 0 rfl rfl dX8_lookOf_3 ?_
      refine gf_X8_174 hg (hI 35 (by decide)) dX8_lookOf_4 ?_
      refine jr_top (Rk.1) ?_
      refine jr_icmp_geN (tgt := 38) hg dX8_lookOf_7 (by decide) (by omega) (by omega) (fun h => by omega) (fun h7 => ?_)
      refine jr_aload_n hg 0 rfl rfl dX8_lookOf_10 ?_
      refine gf_X8_42 hg (hI 35 (by decide)) dX8_lookOf_11 ?_
      refine jr_iload_n hg 3 rfl rfl dX8_lookOf_14 ?_
      refine jr_ialdN hg (n := 200) (by omega) (by decide) (hI 45 (by decide)) (ac_45 _ _) dX8_lookOf_15 ?_
      refine jr_top ((Rk.2 _ (by omega)).1) ?_
      refine jr_iload_n hg 1 rfl rfl dX8_lookOf_16 ?_
      refine jr_icmp_neN (tgt := 32) hg dX8_lookOf_17 (by decide) (by omega) (by omega) (fun h17 => ?_) (fun h17 => ?_)
      · refine jr_iinc hg 3 rfl (nI (_ + 1)) (nI_1 _) dX8_lookOf_32 (by decide) rfl ?_
        refine jr_goto (tgt := 2) hg dX8_lookOf_35 (by decide) ?_
        have e : z_at s l p k = false := by simp [z_at, h17]
        exact jr_lv [1, 2, 3, 0] rfl (ih (by rw [zfind, if_pos hz, e]; rfl))
      · refine jr_aload_n hg 0 rfl rfl dX8_lookOf_20 ?_
        refine gf_X8_45 hg (hI 35 (by decide)) dX8_lookOf_21 ?_
        refine jr_iload_n hg 3 rfl rfl dX8_lookOf_24 ?_
        refine jr_ialdN hg (n := 200) (by omega) (by decide) (hI 46 (by decide)) (ac_46 _ _) dX8_lookOf_25 ?_
        refine jr_top ((Rk.2 _ (by omega)).2.1) ?_
        refine jr_iload_n hg 2 rfl rfl dX8_lookOf_26 ?_
        refine jr_icmp_neN (tgt := 32) hg dX8_lookOf_27 (by decide) (by omega) (by omega) (fun h27 => ?_) (fun h27 => ?_)
        · refine jr_iinc hg 3 rfl (nI (_ + 1)) (nI_1 _) dX8_lookOf_32 (by decide) rfl ?_
          refine jr_goto (tgt := 2) hg dX8_lookOf_35 (by decide) ?_
          have e : z_at s l p k = false := by simp [z_at, h27]
          exact jr_lv [1, 2, 3, 0] rfl (ih (by rw [zfind, if_pos hz, e]; rfl))
        · refine jr_iload_n hg 3 rfl rfl dX8_lookOf_30 ?_
          exact jr_iret hg rfl dX8_lookOf_31 (⟨by rw [zfind_of hk (by simp [z_at, h17, h27]) (zfind_0 hz), zmv_s], rfl⟩)
  exact jr_lv [1, 2, 3, 0] rfl (lp2 0 (by omega) rfl)

set_option maxRecDepth 100000 in
theorem c_X8_counts {E : mm_E} (hI : mm_FR E) {M : mm_M} {s : zS} (hR : zR s M) (hW : zW s) {j : Nat} (hj : j < s 0 2) : mm_Cal E mX8_counts [.ref (E.1 35), .int (nI j)] M (ret1 (.int (nI (z_co s j).toNat)) M) := by
  obtain ⟨Rp, Rl, Rk, Rw, Rt, Rd, Ro, Rq⟩ := hR
  obtain ⟨Wp, Wl, Wk, Ww, Wt, Wd, Wo, Wq⟩ := hW
  have hnp := Wp.1
  have hnl := Wl.1
  have hnk := Wk.1
  have rall : zR s M := ⟨Rp, Rl, Rk, Rw, Rt, Rd, Ro, Rq⟩
  have wall : zW s := ⟨Wp, Wl, Wk, Ww, Wt, Wd, Wo, Wq⟩
  have hlj := Wk.2.1 j hj
  refine jr_entry RX8 (by decide +kernel) (Nat.le_of_ble_eq_true rfl) (fun g hg => ?_)
  refine jr_lv (lv' := [(0, .ref (E.1 35)), (1, .int (nI j))]) [0, 1] rfl ?_
  refine jr_iconst hg (nI 0) dX8_counts_0 (by decide) ?_
  refine jr_istore_n hg dX8_counts_1 rfl (by decide) rfl ?_
  refine jr_iconst hg (nI 0) dX8_counts_2 (by decide) ?_
  refine jr_istore_n hg dX8_counts_3 rfl (by decide) rfl ?_
  have lp4 : ∀ k : Nat, k ≤ j →  mm_J g E mX8_counts (ret1 (.int (nI (z_co s j).toNat)) M) 4 [(0, .ref (E.1 35)), (1, .int (nI j)), (2, .int (nI ((zcnt (z_of s (s 8 j)) k)))), (3, .int (nI k))] [] (M) := by
    refine jr_up (S := fun k =>  mm_J g E mX8_counts (ret1 (.int (nI (z_co s j).toNat)) M) 4 [(0, .ref (E.1 35)), (1, .int (nI j)), (2, .int (nI ((zcnt (z_of s (s 8 j)) k)))), (3, .int (nI k))] [] (M)) (n := j) ?_ ?_
    · show mm_J g E mX8_counts (ret1 (.int (nI (z_co s j).toNat)) M) 4 [(0, .ref (E.1 35)), (1, .int (nI j)), (2, .int (nI ((zcnt (z_of s (s 8 j)) (j))))), (3, .int (nI (j)))] [] (M)
      have g2 := zcnt_le (z_of s (s 8 j)) j
      refine jr_iload_n hg 3 rfl rfl dX8_counts_4 ?_
      refine jr_iload_n hg 1 rfl rfl dX8_counts_5 ?_
      refine jr_icmp_geN (tgt := 41) hg dX8_counts_6 (by decide) (by omega) (by omega) (fun h6 => ?_) (fun h => by omega)
      refine jr_iload_n hg 2 rfl rfl dX8_counts_41 ?_
      refine jr_bipush hg (nI 6) dX8_counts_42 (by decide) ?_
      refine jr_icmp_geN (tgt := 51) hg dX8_counts_44 (by decide) (by omega) (by omega) (fun h44 => ?_) (fun h44 => ?_)
      · refine jr_iconst hg (nI 0) dX8_counts_51 (by decide) ?_
        exact jr_zret hg rfl (by first | exact Or.inl rfl | exact Or.inr rfl | exact z01 _) dX8_counts_52 (⟨by rw [z_co, decide_eq_false (by omega)]; rfl, rfl⟩)
      · refine jr_iconst hg (nI 1) dX8_counts_47 (by decide) ?_
        refine jr_goto (tgt := 52) hg dX8_counts_48 (by decide) ?_
        exact jr_zret hg rfl (by first | exact Or.inl rfl | exact Or.inr rfl | exact z01 _) dX8_counts_52 (⟨by rw [z_co, decide_eq_true (by omega)]; rfl, rfl⟩)
    · intro k hk ih 
      show mm_J g E mX8_counts (ret1 (.int (nI (z_co s j).toNat)) M) 4 [(0, .ref (E.1 35)), (1, .int (nI j)), (2, .int (nI ((zcnt (z_of s (s 8 j)) k)))), (3, .int (nI k))] [] (M)
      have hlo := Wk.2.1 k (by omega)
      refine jr_iload_n hg 3 rfl rfl dX8_counts_4 ?_
      refine jr_iload_n hg 1 rfl rfl dX8_counts_5 ?_
      refine jr_icmp_geN (tgt := 41) hg dX8_counts_6 (by decide) (by omega) (by omega) (fun h => by omega) (fun h6 => ?_)
      refine jr_iload_n hg 2 rfl rfl dX8_counts_9 ?_
      refine jr_aload_n hg 0 rfl rfl dX8_counts_10 ?_
      refine gf_X8_45 hg (hI 35 (by decide)) dX8_counts_11 ?_
      refine jr_iload_n hg 3 rfl rfl dX8_counts_14 ?_
      refine jr_ialdN hg (n := 200) (by omega) (by decide) (hI 46 (by decide)) (ac_46 _ _) dX8_counts_15 ?_
      refine jr_top ((Rk.2 _ (by omega)).2.1) ?_
      refine jr_aload_n hg 0 rfl rfl dX8_counts_16 ?_
      refine gf_X8_45 hg (hI 35 (by decide)) dX8_counts_17 ?_
      refine jr_iload_n hg 1 rfl rfl dX8_counts_20 ?_
      refine jr_ialdN hg (n := 200) (by omega) (by decide) (hI 46 (by decide)) (ac_46 _ _) dX8_counts_21 ?_
      refine jr_top ((Rk.2 _ (by omega)).2.1) ?_
      refine jr_icmp_neN (tgt := 29) hg dX8_counts_22 (by decide) (by omega) (by omega) (fun h22 => ?_) (fun h22 => ?_)
      · refine jr_iconst hg (nI 0) dX8_counts_29 (by decide) ?_
        refine jr_cS1v hg lk_X8_148 (by decide) (by decide) (Nat.le_of_ble_eq_true rfl) dX8_counts_30 (c_X8_one hI (by decide)) ?_
        refine jr_iaddN hg dX8_counts_33 ?_
        refine jr_istore_n hg dX8_counts_34 rfl (by decide) rfl ?_
        refine jr_iinc hg 3 rfl (nI (_ + 1)) (nI_1 _) dX8_counts_35 (by decide) rfl ?_
        refine jr_goto (tgt := 4) hg dX8_counts_38 (by decide) ?_
        have e : zcnt (z_of s (s 8 j)) (k + 1) = zcnt (z_of s (s 8 j)) k + 0 := by
          have q : (z_of s (s 8 j)) k = false := by simp [z_of, h22]
          rw [zcnt_s, q]; rfl
        rw [e] at ih
        exact jr_lv [2, 3, 1, 0] rfl ih
      · refine jr_iconst hg (nI 1) dX8_counts_25 (by decide) ?_
        refine jr_goto (tgt := 30) hg dX8_counts_26 (by decide) ?_
        refine jr_cS1v hg lk_X8_148 (by decide) (by decide) (Nat.le_of_ble_eq_true rfl) dX8_counts_30 (c_X8_one hI (by decide)) ?_
        refine jr_iaddN hg dX8_counts_33 ?_
        refine jr_istore_n hg dX8_counts_34 rfl (by decide) rfl ?_
        refine jr_iinc hg 3 rfl (nI (_ + 1)) (nI_1 _) dX8_counts_35 (by decide) rfl ?_
        refine jr_goto (tgt := 4) hg dX8_counts_38 (by decide) ?_
        have e : zcnt (z_of s (s 8 j)) (k + 1) = zcnt (z_of s (s 8 j)) k + 1 := by
          have q : (z_of s (s 8 j)) k = true := by simp [z_of, h22]
          rw [zcnt_s, q]; rfl
        rw [e] at ih
        exact jr_lv [2, 3, 1, 0] rfl ih
  exact jr_lv [2, 3, 1, 0] rfl (lp4 0 (by omega))

def zseedR (M : mm_M) (v : Nat) : mm_M := mm_si M 35 (upd (M.1 35) 21 (nI v))
theorem mm_si2 (M : mm_M) (c : Nat) (r : Nat → Int32) (q : Nat → Int32) : mm_si (mm_si M c r) c q = mm_si M c q := by
  refine Prod.ext ?_ rfl
  funext d
  show (if d = c then q else if d = c then r else M.1 d) = if d = c then q else M.1 d
  by_cases h : d = c
  · rw [if_pos h, if_pos h]
  · rw [if_neg h, if_neg h, if_neg h]
theorem upd_2 (f : Nat → Int32) (k : Nat) (x y : Int32) : upd (upd f k x) k y = upd f k y := by
  funext j
  by_cases h : j = k
  · rw [h, upd_s, upd_s]
  · rw [upd_n h, upd_n h, upd_n h]
theorem zseedR_2 (M : mm_M) (a b : Nat) : zseedR (zseedR M a) b = zseedR M b := by
  rw [zseedR, zseedR, mm_si2, mm_si_s, upd_2]; rfl
theorem zseedR_self {M : mm_M} {d : Nat} (h : M.1 35 21 = nI d) : zseedR M d = M := by
  refine Prod.ext ?_ rfl
  funext c
  show (if c = 35 then upd (M.1 35) 21 (nI d) else M.1 c) = M.1 c
  by_cases q : c = 35
  · rw [if_pos q, q]
    funext j
    by_cases r : j = 21
    · rw [r, upd_s, h]
    · rw [upd_n r]
  · rw [if_neg q]
theorem zR_seed {s : zS} {M : mm_M} (h : zR s M) (d : Nat) : zR (zseed s d) (zseedR M d) := by
  obtain ⟨a, b, c, d0, e, f, g, q⟩ := h
  exact ⟨a, b, c, d0, e, rfl, g, q⟩

set_option maxRecDepth 100000 in
theorem c_X8_draw {E : mm_E} (hI : mm_FR E) {M : mm_M} {d : Nat} (hR : M.1 35 21 = nI d) (hW : d < 2 ^ 31) : mm_Cal E mX8_draw [.ref (E.1 35)] M (ret1 (.int (nI (z_dv (z_sd d)))) (zseedR M (z_sd d))) := by
  have hq2 := z_sd_lt d
  refine jr_entry RX8 (by decide +kernel) (Nat.le_of_ble_eq_true rfl) (fun g hg => ?_)
  refine jr_lv (lv' := [(0, .ref (E.1 35))]) [0] rfl ?_
  refine jr_aload_n hg 0 rfl rfl dX8_draw_0 ?_
  refine jr_aload_n hg 0 rfl rfl dX8_draw_1 ?_
  refine gf_X8_207 hg (hI 35 (by decide)) dX8_draw_2 ?_
  refine jr_top (hR) ?_
  refine jr_i2l hg (lN _) dX8_draw_5 (nI_l (by omega)) ?_
  refine jr_ldc2 hg wm_29_0 dX8_draw_6 ?_
  refine jr_topl (show (1103515245 : Int64) = lN 1103515245 by decide) ?_
  refine jr_lmul hg dX8_draw_9 ?_
  refine jr_topl (lN_mul _ _) ?_
  refine jr_ldc2 hg wm_29_1 dX8_draw_10 ?_
  refine jr_topl (show (12345 : Int64) = lN 12345 by decide) ?_
  refine jr_ladd hg dX8_draw_13 ?_
  refine jr_topl (lN_add _ _) ?_
  refine jr_ldc2 hg wm_29_2 dX8_draw_14 ?_
  refine jr_topl (show (2147483648 : Int64) = lN 2147483648 by decide) ?_
  refine jr_lrem hg dX8_draw_17 (by decide) ?_
  refine jr_topl ((pk_lRem (by omega) (by decide) (by decide) : _ = lN (z_sd d))) ?_
  refine jr_l2i hg (nI _) dX8_draw_18 (lN_i _) ?_
  refine pf_X8_207 hg (hI 35 (by decide)) dX8_draw_19 ?_
  refine jr_aload_n hg 0 rfl rfl dX8_draw_22 ?_
  refine gf_X8_207 hg (hI 35 (by decide)) dX8_draw_23 ?_
  refine jr_top ((rfl : _ = nI (z_sd d))) ?_
  refine jr_ldc hg wm_29_3 dX8_draw_26 ?_
  refine jr_top (show (65536 : Int32) = nI 65536 by decide) ?_
  refine jr_idivN hg dX8_draw_28 (by omega) (by omega) (by omega) ?_
  refine jr_bipush hg (nI 100) dX8_draw_29 (by decide) ?_
  refine jr_iremN hg dX8_draw_31 (by omega) (by omega) (by omega) ?_
  exact jr_iret hg rfl dX8_draw_32 (⟨rfl, rfl⟩)
