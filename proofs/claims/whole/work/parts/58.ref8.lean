def z_wh (s : zS) (l k : Nat) : Nat → Nat := fun x => if s 7 x == l && z_co s x then s 12 (3 * s 8 x + k) else 0
theorem z_wh_s {s : zS} (h : zW_k s) {l k : Nat} : ∀ n, n ≤ s 0 2 → zsum (z_wh s l k) n = zsum (z_tf s l k 0) n + zsum (z_tf s l k 1) n + zsum (z_tf s l k 2) n + zsum (z_tf s l k 3) n := by
  intro n
  induction n with
  | zero => intro _; rfl
  | succ n ih =>
    intro hn
    have a := ih (by omega)
    have b : z_wh s l k n = z_tf s l k 0 n + z_tf s l k 1 n + z_tf s l k 2 n + z_tf s l k 3 n := by
      have h9 := (h.2.1 n (by omega)).2.2
      simp only [z_wh, z_tf]
      rcases (show s 9 n = 0 ∨ s 9 n = 1 ∨ s 9 n = 2 ∨ s 9 n = 3 by omega) with r | r | r | r <;> rw [r] <;> by_cases q : s 7 n = l <;> simp [q]
    rw [zsum_s, zsum_s, zsum_s, zsum_s, zsum_s, b]; omega
theorem z_wh_w {s : zS} (h : zW_k s) {l k : Nat} : zsum (z_wh s l k) (s 0 2) = z_tw s l k := z_wh_s h _ (Nat.le_refl _)
theorem z_wh_le {s : zS} (hk : zW_k s) (hp : zW_p s) (ho : zW_o s) {l k n : Nat} (hk3 : k < 3) (hn : n ≤ s 0 2) : zsum (z_wh s l k) n ≤ 200000 := by
  have h2 := hk.1
  have : zsum (z_wh s l k) n ≤ n * 1000 := by
    apply zsum_le
    intro x hx
    show (if _ then _ else _) ≤ 1000
    split
    · have := hk.2.1 x (by omega); have := hp.1; exact ho.1 _ (by omega)
    · omega
  omega
theorem z_tfs_le {s : zS} (hk : zW_k s) (hp : zW_p s) (ho : zW_o s) {l k a n : Nat} (hk3 : k < 3) (hn : n ≤ s 0 2) : zsum (z_tf s l k a) n ≤ 200000 := by
  have h2 := hk.1
  have : zsum (z_tf s l k a) n ≤ n * 1000 := by
    apply zsum_le
    intro x hx
    show (if _ then _ else _) ≤ 1000
    split
    · have := hk.2.1 x (by omega); have := hp.1; exact ho.1 _ (by omega)
    · omega
  omega
theorem z_tw_0 {s : zS} (h : zW_k s) {l k : Nat} (hl : s 0 1 ≤ l) : z_tw s l k = 0 := by
  rw [← z_wh_w h]
  have e : ∀ n, n ≤ s 0 2 → zsum (z_wh s l k) n = 0 := by
    intro n
    induction n with
    | zero => intro _; rfl
    | succ n ih =>
      intro hn
      rw [zsum_s, ih (by omega)]
      have := (h.2.1 n (by omega)).1
      show 0 + (if _ then _ else _) = 0
      rw [if_neg]
      simp only [Bool.and_eq_true, beq_iff_eq]
      omega
  exact e _ (Nat.le_refl _)
theorem z_t1_i {s : zS} {l i : Nat} (hi : i < 12) (h : z_tw s l (i / 4) ≠ 0) : z_t1 s (12 * l + i) = 1 + 96 * z_ts s l (i / 4) (i % 4) / z_tw s l (i / 4) := by
  rw [z_t1, show (12 * l + i) / 12 = l by omega, show (12 * l + i) / 4 % 3 = i / 4 by omega, show (12 * l + i) % 4 = i % 4 by omega, if_neg h]
theorem z_t1_j {s : zS} {l i : Nat} (hi : i < 12) (h : z_tw s l (i / 4) = 0) : s 13 (12 * l + i) = z_t1 s (12 * l + i) := by
  rw [z_t1, show (12 * l + i) / 12 = l by omega, show (12 * l + i) / 4 % 3 = i / 4 by omega, if_pos h]
theorem zR_r_t {o t y n : Nat → Nat} {r j v : Nat} {b : Bool} {M : mm_M} {x : Int32} (h : zR_r o (z_mix n t j) y r (b || z_df t n j) M) (hv : v = n j) (hx : x = nI ((b || z_df t n j) || t j != v).toNat) : zR_r o (z_mix n t (j + 1)) y r (b || z_df t n (j + 1)) (mm_si (mm_si M 35 (upd (M.1 35) 27 x)) 49 (upd (M.1 49) j (nI v))) := by
  subst hv
  refine ⟨h.1, ?_, h.2.2.1, ?_, h.2.2.2.2⟩
  · have q := zrow_up (i := j) (v := n j) h.2.1
    rw [z_mix_s] at q
    exact q
  · show x = _
    rw [hx]
    have q := z_df_s b n t j
    rw [z_mix_at] at q
    rw [q]
theorem zR_r_y {o t y n : Nat → Nat} {r j v : Nat} {b : Bool} {M : mm_M} {x : Int32} (h : zR_r o t (z_mix n y j) r (b || z_df y n j) M) (hv : v = n j) (hx : x = nI ((b || z_df y n j) || y j != v).toNat) : zR_r o t (z_mix n y (j + 1)) r (b || z_df y n (j + 1)) (mm_si (mm_si M 35 (upd (M.1 35) 27 x)) 50 (upd (M.1 50) j (nI v))) := by
  subst hv
  refine ⟨h.1, h.2.1, ?_, ?_, h.2.2.2.2⟩
  · have q := zrow_up (i := j) (v := n j) h.2.2.1
    rw [z_mix_s] at q
    exact q
  · show x = _
    rw [hx]
    have q := z_df_s b n y j
    rw [z_mix_at] at q
    rw [q]

set_option maxRecDepth 100000 in
theorem c_X8_countsR {E : mm_E} (hI : mm_FR E) {M : mm_M} {s : zS} (Rk : zR_k s M) (Wk : zW_k s) (hnp : s 0 0 ≤ 24) {j : Nat} (hj : j < s 0 2) : mm_Cal E mX8_counts [.ref (E.1 35), .int (nI j)] M (ret1 (.int (nI (z_co s j).toNat)) M) := by
  have hnk := Wk.1
  have hlj := Wk.2.1 j hj
  refine jr_entry RX8 (by decide +kernel) (Nat.le_of_ble_eq_true rfl) (fun g hg => ?_)
  refine jr_lv (lv' := [(0, .ref (E.1 35)), (1, .int (nI j))]) [0, 1] rfl ?_
  refine jr_iconst hg (nI 0) dX8_counts_0 (by decide) ?_
  refine jr_istore_n hg dX8_counts_1 rfl (by decide) rfl ?_
  refine jr_iconst hg (nI 0) dX8_counts_2 (by decide) ?_
  refine jr_istore_n hg dX8_counts_3 rfl (by decide) rfl ?_
  have lp4 : ∀ k : Nat, k ≤ j →  mm_J g E mX8_counts (ret1 (.int (nI (z_co s j).toNat)) M) 4 [(0, .ref (E.1 35)), (1, .int (nI j)), (2, .int (nI ((zcnt (z_of s (s 8 j)) k)))), (3, .int (nI k))] [] (M) := by
    refine jr_up (S := fun k =>  mm_J g E mX8_counts (ret1 (.int (nI (z_co s j).toNat)) M) 4 [(0, .ref (E.1 35)), (1, .int (nI j)), (2, .int (nI ((zcnt (z_of s (s 8 j)) k)))), (3, .int (nI k))] [] (M)) (n := j) ?_ ?_
    · show mm_J g E mX8_counts (ret1 (.int (nI (z_co s j).toNat)) M) 4 [(0, .ref (E.1 35)), (1, .int (nI j)), (2, .int (nI ((zcnt (z_of s (s 8 j)) (j))))), (3, .int (nI (j)))] [] (M)
      have g2 := zcnt_le (z_of s (s 8 j)) j
      refine jr_iload_n hg 3 rfl rfl dX8_counts_4 ?_
      refine jr_iload_n hg 1 rfl rfl dX8_counts_5 ?_
      refine jr_icmp_geN (tgt := 41) hg dX8_counts_6 (by decide) (by omega) (by omega) (fun h6 => ?_) (fun h => by omega)
      refine jr_iload_n hg 2 rfl rfl dX8_counts_41 ?_
      refine jr_bipush hg (nI 6) dX8_counts_42 (by decide) ?_
      refine jr_icmp_geN (tgt := 51) hg dX8_counts_44 (by decide) (by omega) (by omega) (fun h44 => ?_) (fun h44 => ?_)
      · refine jr_iconst hg (nI 0) dX8_counts_51 (by decide) ?_
        exact jr_zret hg rfl (by first | exact Or.inl rfl | exact Or.inr rfl | exact z01 _) dX8_counts_52 (⟨by rw [z_co, decide_eq_false (by omega)]; rfl, rfl⟩)
      · refine jr_iconst hg (nI 1) dX8_counts_47 (by decide) ?_
        refine jr_goto (tgt := 52) hg dX8_counts_48 (by decide) ?_
        exact jr_zret hg rfl (by first | exact Or.inl rfl | exact Or.inr rfl | exact z01 _) dX8_counts_52 (⟨by rw [z_co, decide_eq_true (by omega)]; rfl, rfl⟩)
    · intro k hk ih 
      show mm_J g E mX8_counts (ret1 (.int (nI (z_co s j).toNat)) M) 4 [(0, .ref (E.1 35)), (1, .int (nI j)), (2, .int (nI ((zcnt (z_of s (s 8 j)) k)))), (3, .int (nI k))] [] (M)
      have hlo := Wk.2.1 k (by omega)
      refine jr_iload_n hg 3 rfl rfl dX8_counts_4 ?_
      refine jr_iload_n hg 1 rfl rfl dX8_counts_5 ?_
      refine jr_icmp_geN (tgt := 41) hg dX8_counts_6 (by decide) (by omega) (by omega) (fun h => by omega) (fun h6 => ?_)
      refine jr_iload_n hg 2 rfl rfl dX8_counts_9 ?_
      refine jr_aload_n hg 0 rfl rfl dX8_counts_10 ?_
      refine gf_X8_45 hg (hI 35 (by decide)) dX8_counts_11 ?_
      refine jr_iload_n hg 3 rfl rfl dX8_counts_14 ?_
      refine jr_ialdN hg (n := 200) (by omega) (by decide) (hI 46 (by decide)) (ac_46 _ _) dX8_counts_15 ?_
      refine jr_top ((Rk.2 _ (by omega)).2.1) ?_
      refine jr_aload_n hg 0 rfl rfl dX8_counts_16 ?_
      refine gf_X8_45 hg (hI 35 (by decide)) dX8_counts_17 ?_
      refine jr_iload_n hg 1 rfl rfl dX8_counts_20 ?_
      refine jr_ialdN hg (n := 200) (by omega) (by decide) (hI 46 (by decide)) (ac_46 _ _) dX8_counts_21 ?_
      refine jr_top ((Rk.2 _ (by omega)).2.1) ?_
      refine jr_icmp_neN (tgt := 29) hg dX8_counts_22 (by decide) (by omega) (by omega) (fun h22 => ?_) (fun h22 => ?_)
      · refine jr_iconst hg (nI 0) dX8_counts_29 (by decide) ?_
        refine jr_cS1v hg lk_X8_148 (by decide) (by decide) (Nat.le_of_ble_eq_true rfl) dX8_counts_30 (c_X8_one hI (by decide)) ?_
        refine jr_iaddN hg dX8_counts_33 ?_
        refine jr_istore_n hg dX8_counts_34 rfl (by decide) rfl ?_
        refine jr_iinc hg 3 rfl (nI (_ + 1)) (nI_1 _) dX8_counts_35 (by decide) rfl ?_
        refine jr_goto (tgt := 4) hg dX8_counts_38 (by decide) ?_
        have e : zcnt (z_of s (s 8 j)) (k + 1) = zcnt (z_of s (s 8 j)) k + 0 := by
          have q : (z_of s (s 8 j)) k = false := by simp [z_of, h22]
          rw [zcnt_s, q]; rfl
        rw [e] at ih
        exact jr_lv [2, 3, 1, 0] rfl ih
      · refine jr_iconst hg (nI 1) dX8_counts_25 (by decide) ?_
        refine jr_goto (tgt := 30) hg dX8_counts_26 (by decide) ?_
        refine jr_cS1v hg lk_X8_148 (by decide) (by decide) (Nat.le_of_ble_eq_true rfl) dX8_counts_30 (c_X8_one hI (by decide)) ?_
        refine jr_iaddN hg dX8_counts_33 ?_
        refine jr_istore_n hg dX8_counts_34 rfl (by decide) rfl ?_
        refine jr_iinc hg 3 rfl (nI (_ + 1)) (nI_1 _) dX8_counts_35 (by decide) rfl ?_
        refine jr_goto (tgt := 4) hg dX8_counts_38 (by decide) ?_
        have e : zcnt (z_of s (s 8 j)) (k + 1) = zcnt (z_of s (s 8 j)) k + 1 := by
          have q : (z_of s (s 8 j)) k = true := by simp [z_of, h22]
          rw [zcnt_s, q]; rfl
        rw [e] at ih
        exact jr_lv [2, 3, 1, 0] rfl ih
  exact jr_lv [2, 3, 1, 0] rfl (lp4 0 (by omega))

set_option maxRecDepth 100000 in
theorem c_X8_findTable {E : mm_E} (hI : mm_FR E) {M : mm_M} {s : zS} (Rp : zR_p s M) (Rk : zR_k s M) (Wp : zW_p s) (Wk : zW_k s) (Wo : zW_o s) (h8 : s 0 1 ≤ 8) {y : Nat → Nat} {r l : Nat} {b : Bool} (hl : l < s 0 1) (hX0 : zR_r (s 12) (z_mix (z_t1 s) (s 13) (12 * l)) y r (b || z_df (s 13) (z_t1 s) (12 * l)) M) : mm_Cal E mX8_findTable [.ref (E.1 35), .int (nI l)] M (fun q M' => q = none ∧ zR_r (s 12) (z_mix (z_t1 s) (s 13) (12 * l + 12)) y r (b || z_df (s 13) (z_t1 s) (12 * l + 12)) M' ∧ zfr [35, 49, 53, 54] M M') := by
  have hnp := Wp.1
  have hnk := Wk.1
  refine jr_entry RX8 (by decide +kernel) (Nat.le_of_ble_eq_true rfl) (fun g hg => ?_)
  refine jr_lv (lv' := [(0, .ref (E.1 35)), (1, .int (nI l))]) [0, 1] rfl ?_
  refine jr_iconst hg (nI 0) dX8_findTable_0 (by decide) ?_
  refine jr_istore_n hg dX8_findTable_1 rfl (by decide) rfl ?_
  have lp2 : ∀ i : Nat, i ≤ 12 → ∀ M1, (∀ j, j < i → M1.1 53 j = nI 0) → zfr [53, 54] M M1 → mm_J g E mX8_findTable (fun q M' => q = none ∧ zR_r (s 12) (z_mix (z_t1 s) (s 13) (12 * l + 12)) y r (b || z_df (s 13) (z_t1 s) (12 * l + 12)) M' ∧ zfr [35, 49, 53, 54] M M') 2 [(0, .ref (E.1 35)), (1, .int (nI l)), (2, .int (nI i))] [] (M1) := by
    refine jr_up (S := fun i => ∀ M1, (∀ j, j < i → M1.1 53 j = nI 0) → zfr [53, 54] M M1 → mm_J g E mX8_findTable (fun q M' => q = none ∧ zR_r (s 12) (z_mix (z_t1 s) (s 13) (12 * l + 12)) y r (b || z_df (s 13) (z_t1 s) (12 * l + 12)) M' ∧ zfr [35, 49, 53, 54] M M') 2 [(0, .ref (E.1 35)), (1, .int (nI l)), (2, .int (nI i))] [] (M1)) (n := 12) ?_ ?_
    · intro M1 hrow hs1
      show mm_J g E mX8_findTable (fun q M' => q = none ∧ zR_r (s 12) (z_mix (z_t1 s) (s 13) (12 * l + 12)) y r (b || z_df (s 13) (z_t1 s) (12 * l + 12)) M' ∧ zfr [35, 49, 53, 54] M M') 2 [(0, .ref (E.1 35)), (1, .int (nI l)), (2, .int (nI (12)))] [] (M1)
      refine jr_iload_n hg 2 rfl rfl dX8_findTable_2 ?_
      refine jr_bipush hg (nI 12) dX8_findTable_3 (by decide) ?_
      refine jr_icmp_geN (tgt := 21) hg dX8_findTable_5 (by decide) (by omega) (by omega) (fun h5 => ?_) (fun h => by omega)
      refine jr_iconst hg (nI 0) dX8_findTable_21 (by decide) ?_
      refine jr_istore_n hg dX8_findTable_22 rfl (by decide) rfl ?_
      have lp23 : ∀ i : Nat, i ≤ 3 → ∀ M2, (∀ j, j < i → M2.1 54 j = nI 0) → (∀ j, j < 12 → M2.1 53 j = nI 0) → zfr [53, 54] M M2 → mm_J g E mX8_findTable (fun q M' => q = none ∧ zR_r (s 12) (z_mix (z_t1 s) (s 13) (12 * l + 12)) y r (b || z_df (s 13) (z_t1 s) (12 * l + 12)) M' ∧ zfr [35, 49, 53, 54] M M') 23 [(0, .ref (E.1 35)), (1, .int (nI l)), (2, .int (nI i))] [] (M2) := by
        refine jr_up (S := fun i => ∀ M2, (∀ j, j < i → M2.1 54 j = nI 0) → (∀ j, j < 12 → M2.1 53 j = nI 0) → zfr [53, 54] M M2 → mm_J g E mX8_findTable (fun q M' => q = none ∧ zR_r (s 12) (z_mix (z_t1 s) (s 13) (12 * l + 12)) y r (b || z_df (s 13) (z_t1 s) (12 * l + 12)) M' ∧ zfr [35, 49, 53, 54] M M') 23 [(0, .ref (E.1 35)), (1, .int (nI l)), (2, .int (nI i))] [] (M2)) (n := 3) ?_ ?_
        · intro M2 hrow hro hs2
          show mm_J g E mX8_findTable (fun q M' => q = none ∧ zR_r (s 12) (z_mix (z_t1 s) (s 13) (12 * l + 12)) y r (b || z_df (s 13) (z_t1 s) (12 * l + 12)) M' ∧ zfr [35, 49, 53, 54] M M') 23 [(0, .ref (E.1 35)), (1, .int (nI l)), (2, .int (nI (3)))] [] (M2)
          refine jr_iload_n hg 2 rfl rfl dX8_findTable_23 ?_
          refine jr_iconst hg (nI 3) dX8_findTable_24 (by decide) ?_
          refine jr_icmp_geN (tgt := 41) hg dX8_findTable_25 (by decide) (by omega) (by omega) (fun h25 => ?_) (fun h => by omega)
          refine jr_iconst hg (nI 0) dX8_findTable_41 (by decide) ?_
          refine jr_istore_n hg dX8_findTable_42 rfl (by decide) rfl ?_
          have lp43 : ∀ x : Nat, x ≤ s 0 2 → ∀ M3, (∀ K A, K < 3 → A < 4 → M3.1 53 (4 * K + A) = nI (zsum (z_tf s l K A) x)) → (∀ K, K < 3 → M3.1 54 K = nI (zsum (z_wh s l K) x)) → zfr [53, 54] M M3 → mm_J g E mX8_findTable (fun q M' => q = none ∧ zR_r (s 12) (z_mix (z_t1 s) (s 13) (12 * l + 12)) y r (b || z_df (s 13) (z_t1 s) (12 * l + 12)) M' ∧ zfr [35, 49, 53, 54] M M') 43 [(0, .ref (E.1 35)), (1, .int (nI l)), (2, .int (nI x))] [] (M3) := by
            refine jr_up (S := fun x => ∀ M3, (∀ K A, K < 3 → A < 4 → M3.1 53 (4 * K + A) = nI (zsum (z_tf s l K A) x)) → (∀ K, K < 3 → M3.1 54 K = nI (zsum (z_wh s l K) x)) → zfr [53, 54] M M3 → mm_J g E mX8_findTable (fun q M' => q = none ∧ zR_r (s 12) (z_mix (z_t1 s) (s 13) (12 * l + 12)) y r (b || z_df (s 13) (z_t1 s) (12 * l + 12)) M' ∧ zfr [35, 49, 53, 54] M M') 43 [(0, .ref (E.1 35)), (1, .int (nI l)), (2, .int (nI x))] [] (M3)) (n := s 0 2) ?_ ?_
            · intro M3 hsm hwh hs3
              show mm_J g E mX8_findTable (fun q M' => q = none ∧ zR_r (s 12) (z_mix (z_t1 s) (s 13) (12 * l + 12)) y r (b || z_df (s 13) (z_t1 s) (12 * l + 12)) M' ∧ zfr [35, 49, 53, 54] M M') 43 [(0, .ref (E.1 35)), (1, .int (nI l)), (2, .int (nI (s 0 2)))] [] (M3)
              refine jr_iload_n hg 2 rfl rfl dX8_findTable_43 ?_
              refine jr_aload_n hg 0 rfl rfl dX8_findTable_44 ?_
              refine gf_X8_174 hg (hI 35 (by decide)) dX8_findTable_45 ?_
              refine jr_top ((zfr_k (hs3.wk (by decide)) Rk).1) ?_
              refine jr_icmp_geN (tgt := 145) hg dX8_findTable_48 (by decide) (by omega) (by omega) (fun h48 => ?_) (fun h => by omega)
              refine jr_iconst hg (nI 0) dX8_findTable_145 (by decide) ?_
              refine jr_istore_n hg dX8_findTable_146 rfl (by decide) rfl ?_
              have lp147 : ∀ i : Nat, i ≤ 12 → ∀ M5, zR_r (s 12) (z_mix (z_t1 s) (s 13) (12 * l + i)) y r (b || z_df (s 13) (z_t1 s) (12 * l + i)) M5 → (∀ K A, K < 3 → A < 4 → M5.1 53 (4 * K + A) = nI (zsum (z_tf s l K A) (s 0 2))) → (∀ K, K < 3 → M5.1 54 K = nI (zsum (z_wh s l K) (s 0 2))) → zfr [35, 49, 53, 54] M M5 → mm_J g E mX8_findTable (fun q M' => q = none ∧ zR_r (s 12) (z_mix (z_t1 s) (s 13) (12 * l + 12)) y r (b || z_df (s 13) (z_t1 s) (12 * l + 12)) M' ∧ zfr [35, 49, 53, 54] M M') 147 [(0, .ref (E.1 35)), (1, .int (nI l)), (2, .int (nI i))] [] (M5) := by
                refine jr_up (S := fun i => ∀ M5, zR_r (s 12) (z_mix (z_t1 s) (s 13) (12 * l + i)) y r (b || z_df (s 13) (z_t1 s) (12 * l + i)) M5 → (∀ K A, K < 3 → A < 4 → M5.1 53 (4 * K + A) = nI (zsum (z_tf s l K A) (s 0 2))) → (∀ K, K < 3 → M5.1 54 K = nI (zsum (z_wh s l K) (s 0 2))) → zfr [35, 49, 53, 54] M M5 → mm_J g E mX8_findTable (fun q M' => q = none ∧ zR_r (s 12) (z_mix (z_t1 s) (s 13) (12 * l + 12)) y r (b || z_df (s 13) (z_t1 s) (12 * l + 12)) M' ∧ zfr [35, 49, 53, 54] M M') 147 [(0, .ref (E.1 35)), (1, .int (nI l)), (2, .int (nI i))] [] (M5)) (n := 12) ?_ ?_
                · intro M5 hx5 hsm hwh hs5
                  show mm_J g E mX8_findTable (fun q M' => q = none ∧ zR_r (s 12) (z_mix (z_t1 s) (s 13) (12 * l + 12)) y r (b || z_df (s 13) (z_t1 s) (12 * l + 12)) M' ∧ zfr [35, 49, 53, 54] M M') 147 [(0, .ref (E.1 35)), (1, .int (nI l)), (2, .int (nI (12)))] [] (M5)
                  refine jr_iload_n hg 2 rfl rfl dX8_findTable_147 ?_
                  refine jr_bipush hg (nI 12) dX8_findTable_148 (by decide) ?_
                  refine jr_icmp_geN (tgt := 234) hg dX8_findTable_150 (by decide) (by omega) (by omega) (fun h150 => ?_) (fun h => by omega)
                  exact jr_vret hg rfl dX8_findTable_234 (⟨rfl, hx5, hs5⟩)
                · intro i hi ih5 M5 hx5 hsm hwh hs5
                  show mm_J g E mX8_findTable (fun q M' => q = none ∧ zR_r (s 12) (z_mix (z_t1 s) (s 13) (12 * l + 12)) y r (b || z_df (s 13) (z_t1 s) (12 * l + 12)) M' ∧ zfr [35, 49, 53, 54] M M') 147 [(0, .ref (E.1 35)), (1, .int (nI l)), (2, .int (nI i))] [] (M5)
                  have hi12 : i < 12 := hi
                  have hwi : M5.1 54 (i / 4) = nI (z_tw s l (i / 4)) := by rw [← z_wh_w Wk]; exact hwh (i / 4) (by omega)
                  have hsi : M5.1 53 i = nI (z_ts s l (i / 4) (i % 4)) := by have q := hsm (i / 4) (i % 4) (by omega) (by omega); rw [show 4 * (i / 4) + i % 4 = i by omega] at q; exact q
                  have t0 := z_ts_le Wk Wp Wo (l := l) (k := i / 4) (a := i % 4) (by omega)
                  have t1 : z_tw s l (i / 4) ≤ 200000 := by rw [← z_wh_w Wk]; exact z_wh_le Wk Wp Wo (by omega) (Nat.le_refl _)
                  have t2 : z_ts s l (i / 4) (i % 4) ≤ 200000 := t0
                  have hmx : M5.1 49 (12 * l + i) = nI (s 13 (12 * l + i)) := by rw [hx5.2.1 _ (by omega), z_mix_at]
                  have t3 := Wo.2.1 (12 * l + i) (by omega)
                  refine jr_iload_n hg 2 rfl rfl dX8_findTable_147 ?_
                  refine jr_bipush hg (nI 12) dX8_findTable_148 (by decide) ?_
                  refine jr_icmp_geN (tgt := 234) hg dX8_findTable_150 (by decide) (by omega) (by omega) (fun h => by omega) (fun h150 => ?_)
                  refine jr_aload_n hg 0 rfl rfl dX8_findTable_153 ?_
                  refine gf_X8_70 hg (hI 35 (by decide)) dX8_findTable_154 ?_
                  refine jr_iload_n hg 2 rfl rfl dX8_findTable_157 ?_
                  refine jr_iconst hg (nI 4) dX8_findTable_158 (by decide) ?_
                  refine jr_idivN hg dX8_findTable_159 (by omega) (by omega) (by omega) ?_
                  refine jr_ialdN hg (n := 3) (by omega) (by decide) (hI 54 (by decide)) (ac_54 _ _) dX8_findTable_160 ?_
                  refine jr_top (hwi) ?_
                  refine jr_if_leN (tgt := 228) hg dX8_findTable_161 (by decide) (by omega) (fun h161 => ?_) (fun h161 => ?_)
                  · refine jr_iinc hg 2 rfl (nI (_ + 1)) (nI_1 _) dX8_findTable_228 (by decide) rfl ?_
                    refine jr_goto (tgt := 147) hg dX8_findTable_231 (by decide) ?_
                    have z := z_t1_j (s := s) (l := l) hi12 h161
                    refine jr_lv [1, 2, 0] rfl (ih5 M5 ?_ hsm hwh hs5)
                    rw [show 12 * l + (i + 1) = (12 * l + i) + 1 by omega, z_mix_same (m := 12 * l + i) (by omega) (fun j h1 h2 => by rw [show j = 12 * l + i by omega]; exact z), z_df_same (m := 12 * l + i) (by omega) (fun j h1 h2 => by rw [show j = 12 * l + i by omega]; exact z)]
                    exact hx5
                  · refine jr_iconst hg (nI 1) dX8_findTable_164 (by decide) ?_
                    refine jr_bipush hg (nI 96) dX8_findTable_165 (by decide) ?_
                    refine jr_aload_n hg 0 rfl rfl dX8_findTable_167 ?_
                    refine gf_X8_67 hg (hI 35 (by decide)) dX8_findTable_168 ?_
                    refine jr_iload_n hg 2 rfl rfl dX8_findTable_171 ?_
                    refine jr_ialdN hg (n := 12) (by omega) (by decide) (hI 53 (by decide)) (ac_53 _ _) dX8_findTable_172 ?_
                    refine jr_top (hsi) ?_
                    refine jr_imulN hg dX8_findTable_173 ?_
                    refine jr_aload_n hg 0 rfl rfl dX8_findTable_174 ?_
                    refine gf_X8_70 hg (hI 35 (by decide)) dX8_findTable_175 ?_
                    refine jr_iload_n hg 2 rfl rfl dX8_findTable_178 ?_
                    refine jr_iconst hg (nI 4) dX8_findTable_179 (by decide) ?_
                    refine jr_idivN hg dX8_findTable_180 (by omega) (by omega) (by omega) ?_
                    refine jr_ialdN hg (n := 3) (by omega) (by decide) (hI 54 (by decide)) (ac_54 _ _) dX8_findTable_181 ?_
                    refine jr_top (hwi) ?_
                    refine jr_idivN hg dX8_findTable_182 (by omega) (by omega) (by omega) ?_
                    refine jr_iaddN hg dX8_findTable_183 ?_
                    have t4 : 96 * z_ts s l (i / 4) (i % 4) / z_tw s l (i / 4) ≤ 96 * z_ts s l (i / 4) (i % 4) := Nat.div_le_self _ _
                    refine jr_istore_n hg dX8_findTable_184 rfl (by decide) rfl ?_
                    refine jr_aload_n hg 1 rfl rfl dX8_findTable_185 ?_
                    refine jr_aload_n hg 1 rfl rfl dX8_findTable_186 ?_
                    refine gf_X8_249 hg (hI 35 (by decide)) dX8_findTable_187 ?_
                    refine jr_top (hx5.2.2.2.1) ?_
                    refine jr_if_neZ (tgt := 208) hg dX8_findTable_190 (by decide) (fun h190 => ?_) (fun h190 => ?_)
                    · refine jr_iconst hg (nI 1) dX8_findTable_208 (by decide) ?_
                      refine jr_goto (tgt := 213) hg dX8_findTable_209 (by decide) ?_
                      refine pf_X8_249 hg (by first | exact Or.inl rfl | exact Or.inr rfl | exact z01 _) (hI 35 (by decide)) dX8_findTable_213 ?_
                      refine jr_aload_n hg 1 rfl rfl dX8_findTable_216 ?_
                      refine gf_X8_54 hg (hI 35 (by decide)) dX8_findTable_217 ?_
                      refine jr_bipush hg (nI 12) dX8_findTable_220 (by decide) ?_
                      refine jr_iload_n hg 2 rfl rfl dX8_findTable_222 ?_
                      refine jr_imulN hg dX8_findTable_223 ?_
                      refine jr_iload_n hg 3 rfl rfl dX8_findTable_224 ?_
                      refine jr_iaddN hg dX8_findTable_225 ?_
                      refine jr_iload_n hg 0 rfl rfl dX8_findTable_226 ?_
                      refine jr_iastN hg (n := 96) (by omega) (by decide) (hI 49 (by decide)) (ac_49) dX8_findTable_227 ?_
                      refine jr_iinc hg 3 rfl (nI (_ + 1)) (nI_1 _) dX8_findTable_228 (by decide) rfl ?_
                      refine jr_goto (tgt := 147) hg dX8_findTable_231 (by decide) ?_
                      have z := z_t1_i (s := s) (l := l) hi12 (by omega)
                      exact jr_lv [2, 3, 0] rfl (ih5 _ (zR_r_t (j := 12 * l + i) hx5 z.symm (by rw [h190]; rfl)) hsm hwh (((hs5.fl (by decide) (Or.inr rfl))).si (by decide) (by decide)))
                    · refine jr_aload_n hg 1 rfl rfl dX8_findTable_193 ?_
                      refine gf_X8_54 hg (hI 35 (by decide)) dX8_findTable_194 ?_
                      refine jr_bipush hg (nI 12) dX8_findTable_197 (by decide) ?_
                      refine jr_iload_n hg 2 rfl rfl dX8_findTable_199 ?_
                      refine jr_imulN hg dX8_findTable_200 ?_
                      refine jr_iload_n hg 3 rfl rfl dX8_findTable_201 ?_
                      refine jr_iaddN hg dX8_findTable_202 ?_
                      refine jr_ialdN hg (n := 96) (by omega) (by decide) (hI 49 (by decide)) (ac_49 _ _) dX8_findTable_203 ?_
                      refine jr_top (hmx) ?_
                      refine jr_iload_n hg 0 rfl rfl dX8_findTable_204 ?_
                      refine jr_icmp_eqN (tgt := 212) hg dX8_findTable_205 (by decide) (by omega) (by omega) (fun h205 => ?_) (fun h205 => ?_)
                      · refine jr_iconst hg (nI 0) dX8_findTable_212 (by decide) ?_
                        refine pf_X8_249 hg (by first | exact Or.inl rfl | exact Or.inr rfl | exact z01 _) (hI 35 (by decide)) dX8_findTable_213 ?_
                        refine jr_aload_n hg 1 rfl rfl dX8_findTable_216 ?_
                        refine gf_X8_54 hg (hI 35 (by decide)) dX8_findTable_217 ?_
                        refine jr_bipush hg (nI 12) dX8_findTable_220 (by decide) ?_
                        refine jr_iload_n hg 2 rfl rfl dX8_findTable_222 ?_
                        refine jr_imulN hg dX8_findTable_223 ?_
                        refine jr_iload_n hg 3 rfl rfl dX8_findTable_224 ?_
                        refine jr_iaddN hg dX8_findTable_225 ?_
                        refine jr_iload_n hg 0 rfl rfl dX8_findTable_226 ?_
                        refine jr_iastN hg (n := 96) (by omega) (by decide) (hI 49 (by decide)) (ac_49) dX8_findTable_227 ?_
                        refine jr_iinc hg 3 rfl (nI (_ + 1)) (nI_1 _) dX8_findTable_228 (by decide) rfl ?_
                        refine jr_goto (tgt := 147) hg dX8_findTable_231 (by decide) ?_
                        have z := z_t1_i (s := s) (l := l) hi12 (by omega)
                        exact jr_lv [2, 3, 0] rfl (ih5 _ (zR_r_t (j := 12 * l + i) hx5 z.symm (by rw [h190, zne_f h205]; rfl)) hsm hwh (((hs5.fl (by decide) (Or.inr rfl))).si (by decide) (by decide)))
                      · refine jr_iconst hg (nI 1) dX8_findTable_208 (by decide) ?_
                        refine jr_goto (tgt := 213) hg dX8_findTable_209 (by decide) ?_
                        refine pf_X8_249 hg (by first | exact Or.inl rfl | exact Or.inr rfl | exact z01 _) (hI 35 (by decide)) dX8_findTable_213 ?_
                        refine jr_aload_n hg 1 rfl rfl dX8_findTable_216 ?_
                        refine gf_X8_54 hg (hI 35 (by decide)) dX8_findTable_217 ?_
                        refine jr_bipush hg (nI 12) dX8_findTable_220 (by decide) ?_
                        refine jr_iload_n hg 2 rfl rfl dX8_findTable_222 ?_
                        refine jr_imulN hg dX8_findTable_223 ?_
                        refine jr_iload_n hg 3 rfl rfl dX8_findTable_224 ?_
                        refine jr_iaddN hg dX8_findTable_225 ?_
                        refine jr_iload_n hg 0 rfl rfl dX8_findTable_226 ?_
                        refine jr_iastN hg (n := 96) (by omega) (by decide) (hI 49 (by decide)) (ac_49) dX8_findTable_227 ?_
                        refine jr_iinc hg 3 rfl (nI (_ + 1)) (nI_1 _) dX8_findTable_228 (by decide) rfl ?_
                        refine jr_goto (tgt := 147) hg dX8_findTable_231 (by decide) ?_
                        have z := z_t1_i (s := s) (l := l) hi12 (by omega)
                        exact jr_lv [2, 3, 0] rfl (ih5 _ (zR_r_t (j := 12 * l + i) hx5 z.symm (by rw [zne_t h205]; rfl)) hsm hwh (((hs5.fl (by decide) (Or.inr rfl))).si (by decide) (by decide)))
              exact jr_lv [1, 2, 0] rfl (lp147 0 (by omega) M3 (zR_r_c (hs3.1 35 (by decide)).1 (hs3.1.at (by decide)) hX0) hsm hwh (hs3.wk (by decide)))
            · intro x hx ih3 M3 hsm hwh hs3
              show mm_J g E mX8_findTable (fun q M' => q = none ∧ zR_r (s 12) (z_mix (z_t1 s) (s 13) (12 * l + 12)) y r (b || z_df (s 13) (z_t1 s) (12 * l + 12)) M' ∧ zfr [35, 49, 53, 54] M M') 43 [(0, .ref (E.1 35)), (1, .int (nI l)), (2, .int (nI x))] [] (M3)
              have hlo := Wk.2.1 x hx
              refine jr_iload_n hg 2 rfl rfl dX8_findTable_43 ?_
              refine jr_aload_n hg 0 rfl rfl dX8_findTable_44 ?_
              refine gf_X8_174 hg (hI 35 (by decide)) dX8_findTable_45 ?_
              refine jr_top ((zfr_k (hs3.wk (by decide)) Rk).1) ?_
              refine jr_icmp_geN (tgt := 145) hg dX8_findTable_48 (by decide) (by omega) (by omega) (fun h => by omega) (fun h48 => ?_)
              refine jr_aload_n hg 0 rfl rfl dX8_findTable_51 ?_
              refine gf_X8_42 hg (hI 35 (by decide)) dX8_findTable_52 ?_
              refine jr_iload_n hg 2 rfl rfl dX8_findTable_55 ?_
              refine jr_ialdN hg (n := 200) (by omega) (by decide) (hI 45 (by decide)) (ac_45 _ _) dX8_findTable_56 ?_
              refine jr_top (((zfr_k (hs3.wk (by decide)) Rk).2 _ (by omega)).1) ?_
              refine jr_iload_n hg 1 rfl rfl dX8_findTable_57 ?_
              refine jr_icmp_neN (tgt := 139) hg dX8_findTable_58 (by decide) (by omega) (by omega) (fun h58 => ?_) (fun h58 => ?_)
              · refine jr_iinc hg 2 rfl (nI (_ + 1)) (nI_1 _) dX8_findTable_139 (by decide) rfl ?_
                refine jr_goto (tgt := 43) hg dX8_findTable_142 (by decide) ?_
                exact jr_lv [1, 2, 0] rfl (ih3 M3 (fun K A hK hA => by rw [hsm K A hK hA, zsum_s, show z_tf s l K A x = 0 by simp [z_tf, h58]]; rfl) (fun K hK => by rw [hwh K hK, zsum_s, show z_wh s l K x = 0 by simp [z_wh, h58]]; rfl) hs3)
              · refine jr_aload_n hg 0 rfl rfl dX8_findTable_61 ?_
                refine jr_iload_n hg 2 rfl rfl dX8_findTable_62 ?_
                refine jr_cV1v hg lk_X8_241 (hI 35 (by decide)) rfl rfl (by decide) (by decide) (Nat.le_of_ble_eq_true rfl) dX8_findTable_63 (c_X8_countsR hI (zfr_k (hs3.wk (by decide)) Rk) Wk hnp hx) ?_
                refine jr_if_eqZ (tgt := 139) hg dX8_findTable_66 (by decide) (fun h66 => ?_) (fun h66 => ?_)
                · refine jr_iinc hg 2 rfl (nI (_ + 1)) (nI_1 _) dX8_findTable_139 (by decide) rfl ?_
                  refine jr_goto (tgt := 43) hg dX8_findTable_142 (by decide) ?_
                  exact jr_lv [1, 2, 0] rfl (ih3 M3 (fun K A hK hA => by rw [hsm K A hK hA, zsum_s, show z_tf s l K A x = 0 by simp [z_tf, h66]]; rfl) (fun K hK => by rw [hwh K hK, zsum_s, show z_wh s l K x = 0 by simp [z_wh, h66]]; rfl) hs3)
                · refine jr_iconst hg (nI 0) dX8_findTable_69 (by decide) ?_
                  refine jr_istore_n hg dX8_findTable_70 rfl (by decide) rfl ?_
                  have lp71 : ∀ k : Nat, k ≤ 3 → ∀ M4, (∀ K A, K < 3 → A < 4 → M4.1 53 (4 * K + A) = nI (zsum (z_tf s l K A) (if A = s 9 x ∧ K < k then x + 1 else x))) → (∀ K, K < 3 → M4.1 54 K = nI (zsum (z_wh s l K) (if K < k then x + 1 else x))) → zfr [53, 54] M M4 → mm_J g E mX8_findTable (fun q M' => q = none ∧ zR_r (s 12) (z_mix (z_t1 s) (s 13) (12 * l + 12)) y r (b || z_df (s 13) (z_t1 s) (12 * l + 12)) M' ∧ zfr [35, 49, 53, 54] M M') 71 [(0, .ref (E.1 35)), (1, .int (nI l)), (2, .int (nI x)), (3, .int (nI k))] [] (M4) := by
                    refine jr_up (S := fun k => ∀ M4, (∀ K A, K < 3 → A < 4 → M4.1 53 (4 * K + A) = nI (zsum (z_tf s l K A) (if A = s 9 x ∧ K < k then x + 1 else x))) → (∀ K, K < 3 → M4.1 54 K = nI (zsum (z_wh s l K) (if K < k then x + 1 else x))) → zfr [53, 54] M M4 → mm_J g E mX8_findTable (fun q M' => q = none ∧ zR_r (s 12) (z_mix (z_t1 s) (s 13) (12 * l + 12)) y r (b || z_df (s 13) (z_t1 s) (12 * l + 12)) M' ∧ zfr [35, 49, 53, 54] M M') 71 [(0, .ref (E.1 35)), (1, .int (nI l)), (2, .int (nI x)), (3, .int (nI k))] [] (M4)) (n := 3) ?_ ?_
                    · intro M4 hsm hwh hs4
                      show mm_J g E mX8_findTable (fun q M' => q = none ∧ zR_r (s 12) (z_mix (z_t1 s) (s 13) (12 * l + 12)) y r (b || z_df (s 13) (z_t1 s) (12 * l + 12)) M' ∧ zfr [35, 49, 53, 54] M M') 71 [(0, .ref (E.1 35)), (1, .int (nI l)), (2, .int (nI x)), (3, .int (nI (3)))] [] (M4)
                      refine jr_iload_n hg 3 rfl rfl dX8_findTable_71 ?_
                      refine jr_iconst hg (nI 3) dX8_findTable_72 (by decide) ?_
                      refine jr_icmp_geN (tgt := 139) hg dX8_findTable_73 (by decide) (by omega) (by omega) (fun h73 => ?_) (fun h => by omega)
                      refine jr_iinc hg 2 rfl (nI (_ + 1)) (nI_1 _) dX8_findTable_139 (by decide) rfl ?_
                      refine jr_goto (tgt := 43) hg dX8_findTable_142 (by decide) ?_
                      exact jr_lv [1, 2, 0] rfl (ih3 M4 (fun K A hK hA => by rw [hsm K A hK hA]; by_cases e : A = s 9 x; rw [if_pos ⟨e, hK⟩]; rw [if_neg (by omega), zsum_s, show z_tf s l K A x = 0 from if_neg (by simp only [Bool.and_eq_true, beq_iff_eq]; omega)]; rfl) (fun K hK => by rw [hwh K hK, if_pos hK]) hs4)
                    · intro k hk ih4 M4 hsm hwh hs4
                      show mm_J g E mX8_findTable (fun q M' => q = none ∧ zR_r (s 12) (z_mix (z_t1 s) (s 13) (12 * l + 12)) y r (b || z_df (s 13) (z_t1 s) (12 * l + 12)) M' ∧ zfr [35, 49, 53, 54] M M') 71 [(0, .ref (E.1 35)), (1, .int (nI l)), (2, .int (nI x)), (3, .int (nI k))] [] (M4)
                      have hk3 : k < 3 := hk
                      have hcu : M4.1 53 (4 * k + s 9 x) = nI (zsum (z_tf s l k (s 9 x)) x) := (hsm k (s 9 x) hk (by omega)).trans (by rw [if_neg (by omega)])
                      have hcw : M4.1 54 k = nI (zsum (z_wh s l k) x) := (hwh k hk).trans (by rw [if_neg (by omega)])
                      have b1 := z_tfs_le Wk Wp Wo (l := l) (a := s 9 x) (n := x) hk3 (by omega)
                      have b2 := z_wh_le Wk Wp Wo (l := l) (n := x) hk3 (by omega)
                      have b3 := Wo.1 (3 * s 8 x + k) (by omega)
                      have hodx : M4.1 48 (3 * s 8 x + k) = nI (s 12 (3 * s 8 x + k)) := (congrFun (hs4.1 48 (by decide)).1 _).trans (hX0.1 _ (by omega))
                      refine jr_iload_n hg 3 rfl rfl dX8_findTable_71 ?_
                      refine jr_iconst hg (nI 3) dX8_findTable_72 (by decide) ?_
                      refine jr_icmp_geN (tgt := 139) hg dX8_findTable_73 (by decide) (by omega) (by omega) (fun h => by omega) (fun h73 => ?_)
                      refine jr_aload_n hg 0 rfl rfl dX8_findTable_76 ?_
                      refine gf_X8_70 hg (hI 35 (by decide)) dX8_findTable_77 ?_
                      refine jr_iload_n hg 3 rfl rfl dX8_findTable_80 ?_
                      refine jr_dup2 hg dX8_findTable_81 rfl rfl ?_
                      refine jr_ialdN hg (n := 3) (by omega) (by decide) (hI 54 (by decide)) (ac_54 _ _) dX8_findTable_82 ?_
                      refine jr_top (hcw) ?_
                      refine jr_aload_n hg 0 rfl rfl dX8_findTable_83 ?_
                      refine gf_X8_51 hg (hI 35 (by decide)) dX8_findTable_84 ?_
                      refine jr_iconst hg (nI 3) dX8_findTable_87 (by decide) ?_
                      refine jr_aload_n hg 0 rfl rfl dX8_findTable_88 ?_
                      refine gf_X8_45 hg (hI 35 (by decide)) dX8_findTable_89 ?_
                      refine jr_iload_n hg 2 rfl rfl dX8_findTable_92 ?_
                      refine jr_ialdN hg (n := 200) (by omega) (by decide) (hI 46 (by decide)) (ac_46 _ _) dX8_findTable_93 ?_
                      refine jr_top (((zfr_k (hs4.wk (by decide)) Rk).2 _ (by omega)).2.1) ?_
                      refine jr_imulN hg dX8_findTable_94 ?_
                      refine jr_iload_n hg 3 rfl rfl dX8_findTable_95 ?_
                      refine jr_iaddN hg dX8_findTable_96 ?_
                      refine jr_ialdN hg (n := 72) (by omega) (by decide) (hI 48 (by decide)) (ac_48 _ _) dX8_findTable_97 ?_
                      refine jr_top (hodx) ?_
                      refine jr_iaddN hg dX8_findTable_98 ?_
                      refine jr_iastN hg (n := 3) (by omega) (by decide) (hI 54 (by decide)) (ac_54) dX8_findTable_99 ?_
                      refine jr_aload_n hg 0 rfl rfl dX8_findTable_100 ?_
                      refine gf_X8_67 hg (hI 35 (by decide)) dX8_findTable_101 ?_
                      refine jr_iconst hg (nI 4) dX8_findTable_104 (by decide) ?_
                      refine jr_iload_n hg 3 rfl rfl dX8_findTable_105 ?_
                      refine jr_imulN hg dX8_findTable_106 ?_
                      refine jr_aload_n hg 0 rfl rfl dX8_findTable_107 ?_
                      refine gf_X8_48 hg (hI 35 (by decide)) dX8_findTable_108 ?_
                      refine jr_iload_n hg 2 rfl rfl dX8_findTable_111 ?_
                      refine jr_ialdN hg (n := 200) (by omega) (by decide) (hI 47 (by decide)) (ac_47 _ _) dX8_findTable_112 ?_
                      refine jr_top (((zfr_k (hs4.wk (by decide)) Rk).2 _ (by omega)).2.2) ?_
                      refine jr_iaddN hg dX8_findTable_113 ?_
                      refine jr_dup2 hg dX8_findTable_114 rfl rfl ?_
                      refine jr_ialdN hg (n := 12) (by omega) (by decide) (hI 53 (by decide)) (ac_53 _ _) dX8_findTable_115 ?_
                      refine jr_top (hcu) ?_
                      refine jr_aload_n hg 0 rfl rfl dX8_findTable_116 ?_
                      refine gf_X8_51 hg (hI 35 (by decide)) dX8_findTable_117 ?_
                      refine jr_iconst hg (nI 3) dX8_findTable_120 (by decide) ?_
                      refine jr_aload_n hg 0 rfl rfl dX8_findTable_121 ?_
                      refine gf_X8_45 hg (hI 35 (by decide)) dX8_findTable_122 ?_
                      refine jr_iload_n hg 2 rfl rfl dX8_findTable_125 ?_
                      refine jr_ialdN hg (n := 200) (by omega) (by decide) (hI 46 (by decide)) (ac_46 _ _) dX8_findTable_126 ?_
                      refine jr_top (((zfr_k (hs4.wk (by decide)) Rk).2 _ (by omega)).2.1) ?_
                      refine jr_imulN hg dX8_findTable_127 ?_
                      refine jr_iload_n hg 3 rfl rfl dX8_findTable_128 ?_
                      refine jr_iaddN hg dX8_findTable_129 ?_
                      refine jr_ialdN hg (n := 72) (by omega) (by decide) (hI 48 (by decide)) (ac_48 _ _) dX8_findTable_130 ?_
                      refine jr_top (hodx) ?_
                      refine jr_iaddN hg dX8_findTable_131 ?_
                      refine jr_iastN hg (n := 12) (by omega) (by decide) (hI 53 (by decide)) (ac_53) dX8_findTable_132 ?_
                      refine jr_iinc hg 3 rfl (nI (_ + 1)) (nI_1 _) dX8_findTable_133 (by decide) rfl ?_
                      refine jr_goto (tgt := 71) hg dX8_findTable_136 (by decide) ?_
                      refine jr_lv [1, 2, 3, 0] rfl (ih4 _ (fun K A hK hA => ?_) (fun K hK => ?_) ((hs4.si (by decide) (by decide)).si (by decide) (by decide)))
                      · show upd (M4.1 53) (4 * k + s 9 x) _ (4 * K + A) = _
                        by_cases e : A = s 9 x ∧ K = k
                        · obtain ⟨e1, e2⟩ := e; subst e1; subst e2; rw [upd_s, if_pos ⟨rfl, by omega⟩, zsum_s, show z_tf s l K (s 9 x) x = s 12 (3 * s 8 x + K) by simp [z_tf, h58, h66]]
                        · rw [upd_n (by omega), hsm K A hK hA]
                          by_cases e1 : A = s 9 x ∧ K < k
                          · rw [if_pos e1, if_pos ⟨e1.1, by omega⟩]
                          · rw [if_neg e1, if_neg (by omega)]
                      · show upd (M4.1 54) k _ K = _
                        by_cases e : K = k
                        · subst e; rw [upd_s, if_pos (by omega), zsum_s, show z_wh s l K x = s 12 (3 * s 8 x + K) by simp [z_wh, h58, h66]]
                        · rw [upd_n e, hwh K hK]
                          by_cases e1 : K < k
                          · rw [if_pos e1, if_pos (by omega)]
                          · rw [if_neg e1, if_neg (by omega)]
                  exact jr_lv [1, 2, 3, 0] rfl (lp71 0 (by omega) M3 (fun K A hK hA => by rw [if_neg (by omega)]; exact hsm K A hK hA) (fun K hK => by rw [if_neg (by omega)]; exact hwh K hK) hs3)
          exact jr_lv [1, 2, 0] rfl (lp43 0 (by omega) M2 (fun K A hK hA => hro _ (by omega)) (fun K hK => hrow K hK) hs2)
        · intro i hi ih2 M2 hrow hro hs2
          show mm_J g E mX8_findTable (fun q M' => q = none ∧ zR_r (s 12) (z_mix (z_t1 s) (s 13) (12 * l + 12)) y r (b || z_df (s 13) (z_t1 s) (12 * l + 12)) M' ∧ zfr [35, 49, 53, 54] M M') 23 [(0, .ref (E.1 35)), (1, .int (nI l)), (2, .int (nI i))] [] (M2)
          refine jr_iload_n hg 2 rfl rfl dX8_findTable_23 ?_
          refine jr_iconst hg (nI 3) dX8_findTable_24 (by decide) ?_
          refine jr_icmp_geN (tgt := 41) hg dX8_findTable_25 (by decide) (by omega) (by omega) (fun h => by omega) (fun h25 => ?_)
          refine jr_aload_n hg 0 rfl rfl dX8_findTable_28 ?_
          refine gf_X8_70 hg (hI 35 (by decide)) dX8_findTable_29 ?_
          refine jr_iload_n hg 2 rfl rfl dX8_findTable_32 ?_
          refine jr_iconst hg (nI 0) dX8_findTable_33 (by decide) ?_
          refine jr_iastN hg (n := 3) (by omega) (by decide) (hI 54 (by decide)) (ac_54) dX8_findTable_34 ?_
          refine jr_iinc hg 2 rfl (nI (_ + 1)) (nI_1 _) dX8_findTable_35 (by decide) rfl ?_
          refine jr_goto (tgt := 23) hg dX8_findTable_38 (by decide) ?_
          exact jr_lv [1, 2, 0] rfl (ih2 (mm_si M2 54 (upd (M2.1 54) i (nI 0))) (fun j hj => by show upd (M2.1 54) i (nI 0) j = _; by_cases e : j = i; rw [e, upd_s]; rw [upd_n e]; exact hrow j (by omega)) hro (hs2.si (by decide) (by decide)))
      exact jr_lv [1, 2, 0] rfl (lp23 0 (by omega) M1 (fun j hj => by omega) hrow hs1)
    · intro i hi ih M1 hrow hs1
      show mm_J g E mX8_findTable (fun q M' => q = none ∧ zR_r (s 12) (z_mix (z_t1 s) (s 13) (12 * l + 12)) y r (b || z_df (s 13) (z_t1 s) (12 * l + 12)) M' ∧ zfr [35, 49, 53, 54] M M') 2 [(0, .ref (E.1 35)), (1, .int (nI l)), (2, .int (nI i))] [] (M1)
      refine jr_iload_n hg 2 rfl rfl dX8_findTable_2 ?_
      refine jr_bipush hg (nI 12) dX8_findTable_3 (by decide) ?_
      refine jr_icmp_geN (tgt := 21) hg dX8_findTable_5 (by decide) (by omega) (by omega) (fun h => by omega) (fun h5 => ?_)
      refine jr_aload_n hg 0 rfl rfl dX8_findTable_8 ?_
      refine gf_X8_67 hg (hI 35 (by decide)) dX8_findTable_9 ?_
      refine jr_iload_n hg 2 rfl rfl dX8_findTable_12 ?_
      refine jr_iconst hg (nI 0) dX8_findTable_13 (by decide) ?_
      refine jr_iastN hg (n := 12) (by omega) (by decide) (hI 53 (by decide)) (ac_53) dX8_findTable_14 ?_
      refine jr_iinc hg 2 rfl (nI (_ + 1)) (nI_1 _) dX8_findTable_15 (by decide) rfl ?_
      refine jr_goto (tgt := 2) hg dX8_findTable_18 (by decide) ?_
      exact jr_lv [1, 2, 0] rfl (ih (mm_si M1 53 (upd (M1.1 53) i (nI 0))) (fun j hj => by show upd (M1.1 53) i (nI 0) j = _; by_cases e : j = i; rw [e, upd_s]; rw [upd_n e]; exact hrow j (by omega)) (hs1.si (by decide) (by decide)))
  exact jr_lv [1, 2, 0] rfl (lp2 0 (by omega) M (fun j hj => by omega) zfr.rf)

def z_lf (f : Nat → Nat) : Nat → Int32
  | 0 => nI 1000
  | k + 1 => z_lf f k - nI (f k)
theorem zi32_ar (a b c d : Int32) : a + (b - a - c - d) = b - c - d := by
  simp only [Int32.sub_eq_add_neg]
  rw [← Int32.add_assoc, ← Int32.add_assoc, ← Int32.add_assoc, Int32.add_comm a b, Int32.add_assoc b a, Int32.add_right_neg, Int32.add_zero]
theorem z_lf_3 (f : Nat → Nat) : nI (f 0) + z_lf f 3 = nI 1000 - nI (f 1) - nI (f 2) := zi32_ar _ _ _ _
def z_ss (s : zS) (k : Nat) : Nat := z_sm s k (s 0 0) / s 0 0
def z_sv (s : zS) (k : Nat) : Int32 := if k = 0 then nI 1000 - nI (z_ss s 1) - nI (z_ss s 2) else nI (z_ss s k)
theorem z_ss_le {s : zS} (hp : zW_p s) (ho : zW_o s) {k : Nat} (hk : k < 3) : z_ss s k ≤ 1000 := Nat.div_le_of_le_mul (z_sm_le hp ho hk (Nat.le_refl _))
theorem z_y1_e {s : zS} (h0 : 0 < s 0 0) (k : Nat) : z_y1 s k = max 1 (if k = 0 then 1000 - z_ss s 1 - z_ss s 2 else z_ss s k) := by
  rw [z_y1, if_neg (by omega)]; rfl
theorem z_sv_v {s : zS} (hp : zW_p s) (ho : zW_o s) {k : Nat} (hk : k < 3) : (z_sv s k).toInt = if k = 0 then (1000 : Int) - (z_ss s 1 : Int) - (z_ss s 2 : Int) else (z_ss s k : Int) := by
  have a1 := z_ss_le hp ho (k := 1) (by decide)
  have a2 := z_ss_le hp ho (k := 2) (by decide)
  have ak := z_ss_le hp ho hk
  rw [z_sv]
  by_cases e : k = 0
  · rw [if_pos e, if_pos e, Int32.toInt_sub, pk_sub_toInt (by decide) (by omega), nI_toInt (by omega), Int.bmod_eq_of_le (by omega) (by omega)]; omega
  · rw [if_neg e, if_neg e, nI_toInt (by omega)]
theorem z_sv_1 {s : zS} (hp : zW_p s) (ho : zW_o s) (h0 : 0 < s 0 0) {k : Nat} (hk : k < 3) (h : nI 1 ≤ z_sv s k) : z_sv s k = nI (z_y1 s k) := by
  have v := z_sv_v hp ho hk
  have y := z_y1_in hp ho k hk
  have e := z_y1_e h0 k
  have ak := z_ss_le hp ho hk
  rw [Int32.le_iff_toInt_le, nI_toInt (by decide), v] at h
  apply Int32.toInt_inj.mp
  rw [v, nI_toInt (by omega), e]
  by_cases q : k = 0
  · rw [if_pos q] at h ⊢; rw [if_pos q]; omega
  · rw [if_neg q] at h ⊢; rw [if_neg q]; omega
theorem z_sv_0 {s : zS} (hp : zW_p s) (ho : zW_o s) (h0 : 0 < s 0 0) {k : Nat} (hk : k < 3) (h : ¬ nI 1 ≤ z_sv s k) : z_y1 s k = 1 := by
  have v := z_sv_v hp ho hk
  have e := z_y1_e h0 k
  rw [Int32.le_iff_toInt_le, nI_toInt (by decide), v] at h
  rw [e]
  by_cases q : k = 0
  · rw [if_pos q] at h ⊢; omega
  · rw [if_neg q] at h ⊢; omega

set_option maxRecDepth 100000 in
theorem c_X8_findSky {E : mm_E} (hI : mm_FR E) {M : mm_M} {s : zS} (Rp : zR_p s M) (Wp : zW_p s) (Wo : zW_o s) (hpos : 0 < s 0 0) {r : Nat} {b : Bool} (hX0 : zR_r (s 12) (s 13) (s 14) r b M) : mm_Cal E mX8_findSky [.ref (E.1 35)] M (fun q M' => q = none ∧ zR_r (s 12) (s 13) (z_mix (z_y1 s) (s 14) 3) r (b || z_df (s 14) (z_y1 s) 3) M' ∧ zfr [35, 50, 52] M M') := by
  have hnp := Wp.1
  refine jr_entry RX8 (by decide +kernel) (Nat.le_of_ble_eq_true rfl) (fun g hg => ?_)
  refine jr_lv (lv' := [(0, .ref (E.1 35))]) [0] rfl ?_
  refine jr_sipush hg (nI 1000) dX8_findSky_0 (by decide) ?_
  refine jr_istore_n hg dX8_findSky_3 rfl (by decide) rfl ?_
  refine jr_iconst hg (nI 0) dX8_findSky_4 (by decide) ?_
  refine jr_istore_n hg dX8_findSky_5 rfl (by decide) rfl ?_
  have lp6 : ∀ k : Nat, k ≤ 3 → ∀ M1, (∀ j, j < k → M1.1 52 j = nI (z_ss s j)) → zfr [52] M M1 → mm_J g E mX8_findSky (fun q M' => q = none ∧ zR_r (s 12) (s 13) (z_mix (z_y1 s) (s 14) 3) r (b || z_df (s 14) (z_y1 s) 3) M' ∧ zfr [35, 50, 52] M M') 6 [(0, .ref (E.1 35)), (1, .int (z_lf (z_ss s) k)), (2, .int (nI k))] [] (M1) := by
    refine jr_up (S := fun k => ∀ M1, (∀ j, j < k → M1.1 52 j = nI (z_ss s j)) → zfr [52] M M1 → mm_J g E mX8_findSky (fun q M' => q = none ∧ zR_r (s 12) (s 13) (z_mix (z_y1 s) (s 14) 3) r (b || z_df (s 14) (z_y1 s) 3) M' ∧ zfr [35, 50, 52] M M') 6 [(0, .ref (E.1 35)), (1, .int (z_lf (z_ss s) k)), (2, .int (nI k))] [] (M1)) (n := 3) ?_ ?_
    · intro M1 hsh hs1
      show mm_J g E mX8_findSky (fun q M' => q = none ∧ zR_r (s 12) (s 13) (z_mix (z_y1 s) (s 14) 3) r (b || z_df (s 14) (z_y1 s) 3) M' ∧ zfr [35, 50, 52] M M') 6 [(0, .ref (E.1 35)), (1, .int (z_lf (z_ss s) (3))), (2, .int (nI (3)))] [] (M1)
      refine jr_iload_n hg 2 rfl rfl dX8_findSky_6 ?_
      refine jr_iconst hg (nI 3) dX8_findSky_7 (by decide) ?_
      refine jr_icmp_geN (tgt := 72) hg dX8_findSky_8 (by decide) (by omega) (by omega) (fun h8 => ?_) (fun h => by omega)
      refine jr_aload_n hg 0 rfl rfl dX8_findSky_72 ?_
      refine gf_X8_64 hg (hI 35 (by decide)) dX8_findSky_73 ?_
      refine jr_iconst hg (nI 0) dX8_findSky_76 (by decide) ?_
      refine jr_dup2 hg dX8_findSky_77 rfl rfl ?_
      refine jr_ialdN hg (n := 3) (by omega) (by decide) (hI 52 (by decide)) (ac_52 _ _) dX8_findSky_78 ?_
      refine jr_top (hsh 0 (by decide)) ?_
      refine jr_iload_n hg 1 rfl rfl dX8_findSky_79 ?_
      refine jr_iadd hg dX8_findSky_80 ?_
      refine jr_top (z_lf_3 _) ?_
      refine jr_iastN hg (n := 3) (by omega) (by decide) (hI 52 (by decide)) (ac_52) dX8_findSky_81 ?_
      refine jr_iconst hg (nI 0) dX8_findSky_82 (by decide) ?_
      refine jr_istore_n hg dX8_findSky_83 rfl (by decide) rfl ?_
      have lp84 : ∀ k : Nat, k ≤ 3 → ∀ M3, zR_r (s 12) (s 13) (z_mix (z_y1 s) (s 14) k) r (b || z_df (s 14) (z_y1 s) k) M3 → (∀ j, j < 3 → M3.1 52 j = z_sv s j) → zfr [35, 50, 52] M M3 → mm_J g E mX8_findSky (fun q M' => q = none ∧ zR_r (s 12) (s 13) (z_mix (z_y1 s) (s 14) 3) r (b || z_df (s 14) (z_y1 s) 3) M' ∧ zfr [35, 50, 52] M M') 84 [(0, .ref (E.1 35)), (2, .int (nI k))] [] (M3) := by
        refine jr_up (S := fun k => ∀ M3, zR_r (s 12) (s 13) (z_mix (z_y1 s) (s 14) k) r (b || z_df (s 14) (z_y1 s) k) M3 → (∀ j, j < 3 → M3.1 52 j = z_sv s j) → zfr [35, 50, 52] M M3 → mm_J g E mX8_findSky (fun q M' => q = none ∧ zR_r (s 12) (s 13) (z_mix (z_y1 s) (s 14) 3) r (b || z_df (s 14) (z_y1 s) 3) M' ∧ zfr [35, 50, 52] M M') 84 [(0, .ref (E.1 35)), (2, .int (nI k))] [] (M3)) (n := 3) ?_ ?_
        · intro M3 hx3 hsv hs3
          show mm_J g E mX8_findSky (fun q M' => q = none ∧ zR_r (s 12) (s 13) (z_mix (z_y1 s) (s 14) 3) r (b || z_df (s 14) (z_y1 s) 3) M' ∧ zfr [35, 50, 52] M M') 84 [(0, .ref (E.1 35)), (2, .int (nI (3)))] [] (M3)
          refine jr_iload_n hg 1 rfl rfl dX8_findSky_84 ?_
          refine jr_iconst hg (nI 3) dX8_findSky_85 (by decide) ?_
          refine jr_icmp_geN (tgt := 149) hg dX8_findSky_86 (by decide) (by omega) (by omega) (fun h86 => ?_) (fun h => by omega)
          exact jr_vret hg rfl dX8_findSky_149 (⟨rfl, hx3, hs3⟩)
        · intro k hk ih3 M3 hx3 hsv hs3
          show mm_J g E mX8_findSky (fun q M' => q = none ∧ zR_r (s 12) (s 13) (z_mix (z_y1 s) (s 14) 3) r (b || z_df (s 14) (z_y1 s) 3) M' ∧ zfr [35, 50, 52] M M') 84 [(0, .ref (E.1 35)), (2, .int (nI k))] [] (M3)
          have hk3 : k < 3 := hk
          have hy := z_y1_in Wp Wo k hk3
          have hy2 := Wo.2.2.1 k hk3
          have hmy : M3.1 50 k = nI (s 14 k) := by rw [hx3.2.2.1 k hk3, z_mix_at]
          refine jr_iload_n hg 1 rfl rfl dX8_findSky_84 ?_
          refine jr_iconst hg (nI 3) dX8_findSky_85 (by decide) ?_
          refine jr_icmp_geN (tgt := 149) hg dX8_findSky_86 (by decide) (by omega) (by omega) (fun h => by omega) (fun h86 => ?_)
          refine jr_aload_n hg 0 rfl rfl dX8_findSky_89 ?_
          refine gf_X8_64 hg (hI 35 (by decide)) dX8_findSky_90 ?_
          refine jr_iload_n hg 1 rfl rfl dX8_findSky_93 ?_
          refine jr_ialdN hg (n := 3) (by omega) (by decide) (hI 52 (by decide)) (ac_52 _ _) dX8_findSky_94 ?_
          refine jr_top (hsv k hk3) ?_
          refine jr_iconst hg (nI 1) dX8_findSky_95 (by decide) ?_
          refine jr_icmp_ge (tgt := 103) hg dX8_findSky_96 (by decide) (fun h96 => ?_) (fun h96 => ?_)
          · refine jr_aload_n hg 0 rfl rfl dX8_findSky_103 ?_
            refine gf_X8_64 hg (hI 35 (by decide)) dX8_findSky_104 ?_
            refine jr_iload_n hg 1 rfl rfl dX8_findSky_107 ?_
            refine jr_ialdN hg (n := 3) (by omega) (by decide) (hI 52 (by decide)) (ac_52 _ _) dX8_findSky_108 ?_
            refine jr_top ((hsv k hk3).trans (z_sv_1 Wp Wo hpos hk3 h96)) ?_
            refine jr_istore_n hg dX8_findSky_109 rfl (by decide) rfl ?_
            refine jr_aload_n hg 1 rfl rfl dX8_findSky_110 ?_
            refine jr_aload_n hg 1 rfl rfl dX8_findSky_111 ?_
            refine gf_X8_249 hg (hI 35 (by decide)) dX8_findSky_112 ?_
            refine jr_top (hx3.2.2.2.1) ?_
            refine jr_if_neZ (tgt := 128) hg dX8_findSky_115 (by decide) (fun h115 => ?_) (fun h115 => ?_)
            · refine jr_iconst hg (nI 1) dX8_findSky_128 (by decide) ?_
              refine jr_goto (tgt := 133) hg dX8_findSky_129 (by decide) ?_
              refine pf_X8_249 hg (by first | exact Or.inl rfl | exact Or.inr rfl | exact z01 _) (hI 35 (by decide)) dX8_findSky_133 ?_
              refine jr_aload_n hg 1 rfl rfl dX8_findSky_136 ?_
              refine gf_X8_57 hg (hI 35 (by decide)) dX8_findSky_137 ?_
              refine jr_iload_n hg 2 rfl rfl dX8_findSky_140 ?_
              refine jr_iload_n hg 0 rfl rfl dX8_findSky_141 ?_
              refine jr_iastN hg (n := 3) (by omega) (by decide) (hI 50 (by decide)) (ac_50) dX8_findSky_142 ?_
              refine jr_iinc hg 2 rfl (nI (_ + 1)) (nI_1 _) dX8_findSky_143 (by decide) rfl ?_
              refine jr_goto (tgt := 84) hg dX8_findSky_146 (by decide) ?_
              exact jr_lv [2, 0] rfl (ih3 _ (zR_r_y (j := k) hx3 rfl (by rw [h115]; rfl)) hsv (((hs3.fl (by decide) (Or.inr rfl))).si (by decide) (by decide)))
            · refine jr_aload_n hg 1 rfl rfl dX8_findSky_118 ?_
              refine gf_X8_57 hg (hI 35 (by decide)) dX8_findSky_119 ?_
              refine jr_iload_n hg 2 rfl rfl dX8_findSky_122 ?_
              refine jr_ialdN hg (n := 3) (by omega) (by decide) (hI 50 (by decide)) (ac_50 _ _) dX8_findSky_123 ?_
              refine jr_top (hmy) ?_
              refine jr_iload_n hg 0 rfl rfl dX8_findSky_124 ?_
              refine jr_icmp_eqN (tgt := 132) hg dX8_findSky_125 (by decide) (by omega) (by omega) (fun h125 => ?_) (fun h125 => ?_)
              · refine jr_iconst hg (nI 0) dX8_findSky_132 (by decide) ?_
                refine pf_X8_249 hg (by first | exact Or.inl rfl | exact Or.inr rfl | exact z01 _) (hI 35 (by decide)) dX8_findSky_133 ?_
                refine jr_aload_n hg 1 rfl rfl dX8_findSky_136 ?_
                refine gf_X8_57 hg (hI 35 (by decide)) dX8_findSky_137 ?_
                refine jr_iload_n hg 2 rfl rfl dX8_findSky_140 ?_
                refine jr_iload_n hg 0 rfl rfl dX8_findSky_141 ?_
                refine jr_iastN hg (n := 3) (by omega) (by decide) (hI 50 (by decide)) (ac_50) dX8_findSky_142 ?_
                refine jr_iinc hg 2 rfl (nI (_ + 1)) (nI_1 _) dX8_findSky_143 (by decide) rfl ?_
                refine jr_goto (tgt := 84) hg dX8_findSky_146 (by decide) ?_
                exact jr_lv [2, 0] rfl (ih3 _ (zR_r_y (j := k) hx3 rfl (by rw [h115, zne_f h125]; rfl)) hsv (((hs3.fl (by decide) (Or.inr rfl))).si (by decide) (by decide)))
              · refine jr_iconst hg (nI 1) dX8_findSky_128 (by decide) ?_
                refine jr_goto (tgt := 133) hg dX8_findSky_129 (by decide) ?_
                refine pf_X8_249 hg (by first | exact Or.inl rfl | exact Or.inr rfl | exact z01 _) (hI 35 (by decide)) dX8_findSky_133 ?_
                refine jr_aload_n hg 1 rfl rfl dX8_findSky_136 ?_
                refine gf_X8_57 hg (hI 35 (by decide)) dX8_findSky_137 ?_
                refine jr_iload_n hg 2 rfl rfl dX8_findSky_140 ?_
                refine jr_iload_n hg 0 rfl rfl dX8_findSky_141 ?_
                refine jr_iastN hg (n := 3) (by omega) (by decide) (hI 50 (by decide)) (ac_50) dX8_findSky_142 ?_
                refine jr_iinc hg 2 rfl (nI (_ + 1)) (nI_1 _) dX8_findSky_143 (by decide) rfl ?_
                refine jr_goto (tgt := 84) hg dX8_findSky_146 (by decide) ?_
                exact jr_lv [2, 0] rfl (ih3 _ (zR_r_y (j := k) hx3 rfl (by rw [zne_t h125]; rfl)) hsv (((hs3.fl (by decide) (Or.inr rfl))).si (by decide) (by decide)))
          · refine jr_iconst hg (nI 1) dX8_findSky_99 (by decide) ?_
            refine jr_goto (tgt := 109) hg dX8_findSky_100 (by decide) ?_
            refine jr_top (show nI 1 = nI (z_y1 s k) by rw [z_sv_0 Wp Wo hpos hk3 h96]) ?_
            refine jr_istore_n hg dX8_findSky_109 rfl (by decide) rfl ?_
            refine jr_aload_n hg 1 rfl rfl dX8_findSky_110 ?_
            refine jr_aload_n hg 1 rfl rfl dX8_findSky_111 ?_
            refine gf_X8_249 hg (hI 35 (by decide)) dX8_findSky_112 ?_
            refine jr_top (hx3.2.2.2.1) ?_
            refine jr_if_neZ (tgt := 128) hg dX8_findSky_115 (by decide) (fun h115 => ?_) (fun h115 => ?_)
            · refine jr_iconst hg (nI 1) dX8_findSky_128 (by decide) ?_
              refine jr_goto (tgt := 133) hg dX8_findSky_129 (by decide) ?_
              refine pf_X8_249 hg (by first | exact Or.inl rfl | exact Or.inr rfl | exact z01 _) (hI 35 (by decide)) dX8_findSky_133 ?_
              refine jr_aload_n hg 1 rfl rfl dX8_findSky_136 ?_
              refine gf_X8_57 hg (hI 35 (by decide)) dX8_findSky_137 ?_
              refine jr_iload_n hg 2 rfl rfl dX8_findSky_140 ?_
              refine jr_iload_n hg 0 rfl rfl dX8_findSky_141 ?_
              refine jr_iastN hg (n := 3) (by omega) (by decide) (hI 50 (by decide)) (ac_50) dX8_findSky_142 ?_
              refine jr_iinc hg 2 rfl (nI (_ + 1)) (nI_1 _) dX8_findSky_143 (by decide) rfl ?_
              refine jr_goto (tgt := 84) hg dX8_findSky_146 (by decide) ?_
              exact jr_lv [2, 0] rfl (ih3 _ (zR_r_y (j := k) hx3 rfl (by rw [h115]; rfl)) hsv (((hs3.fl (by decide) (Or.inr rfl))).si (by decide) (by decide)))
            · refine jr_aload_n hg 1 rfl rfl dX8_findSky_118 ?_
              refine gf_X8_57 hg (hI 35 (by decide)) dX8_findSky_119 ?_
              refine jr_iload_n hg 2 rfl rfl dX8_findSky_122 ?_
              refine jr_ialdN hg (n := 3) (by omega) (by decide) (hI 50 (by decide)) (ac_50 _ _) dX8_findSky_123 ?_
              refine jr_top (hmy) ?_
              refine jr_iload_n hg 0 rfl rfl dX8_findSky_124 ?_
              refine jr_icmp_eqN (tgt := 132) hg dX8_findSky_125 (by decide) (by omega) (by omega) (fun h125 => ?_) (fun h125 => ?_)
              · refine jr_iconst hg (nI 0) dX8_findSky_132 (by decide) ?_
                refine pf_X8_249 hg (by first | exact Or.inl rfl | exact Or.inr rfl | exact z01 _) (hI 35 (by decide)) dX8_findSky_133 ?_
                refine jr_aload_n hg 1 rfl rfl dX8_findSky_136 ?_
                refine gf_X8_57 hg (hI 35 (by decide)) dX8_findSky_137 ?_
                refine jr_iload_n hg 2 rfl rfl dX8_findSky_140 ?_
                refine jr_iload_n hg 0 rfl rfl dX8_findSky_141 ?_
                refine jr_iastN hg (n := 3) (by omega) (by decide) (hI 50 (by decide)) (ac_50) dX8_findSky_142 ?_
                refine jr_iinc hg 2 rfl (nI (_ + 1)) (nI_1 _) dX8_findSky_143 (by decide) rfl ?_
                refine jr_goto (tgt := 84) hg dX8_findSky_146 (by decide) ?_
                exact jr_lv [2, 0] rfl (ih3 _ (zR_r_y (j := k) hx3 rfl (by rw [h115, zne_f h125]; rfl)) hsv (((hs3.fl (by decide) (Or.inr rfl))).si (by decide) (by decide)))
              · refine jr_iconst hg (nI 1) dX8_findSky_128 (by decide) ?_
                refine jr_goto (tgt := 133) hg dX8_findSky_129 (by decide) ?_
                refine pf_X8_249 hg (by first | exact Or.inl rfl | exact Or.inr rfl | exact z01 _) (hI 35 (by decide)) dX8_findSky_133 ?_
                refine jr_aload_n hg 1 rfl rfl dX8_findSky_136 ?_
                refine gf_X8_57 hg (hI 35 (by decide)) dX8_findSky_137 ?_
                refine jr_iload_n hg 2 rfl rfl dX8_findSky_140 ?_
                refine jr_iload_n hg 0 rfl rfl dX8_findSky_141 ?_
                refine jr_iastN hg (n := 3) (by omega) (by decide) (hI 50 (by decide)) (ac_50) dX8_findSky_142 ?_
                refine jr_iinc hg 2 rfl (nI (_ + 1)) (nI_1 _) dX8_findSky_143 (by decide) rfl ?_
                refine jr_goto (tgt := 84) hg dX8_findSky_146 (by decide) ?_
                exact jr_lv [2, 0] rfl (ih3 _ (zR_r_y (j := k) hx3 rfl (by rw [zne_t h125]; rfl)) hsv (((hs3.fl (by decide) (Or.inr rfl))).si (by decide) (by decide)))
      exact jr_lv [1, 0] rfl (lp84 0 (by omega) _ (zR_r_0y (zR_r_c (show M1.1 35 = _ from (hs1.1 35 (by decide)).1) ((hs1.si (by decide) (by decide) : zfr [52] M _).1.at (by decide)) hX0)) (fun j hj => by show upd (M1.1 52) 0 _ j = _; by_cases e : j = 0; rw [e, upd_s]; rfl; rw [upd_n e, hsh j hj, z_sv, if_neg e]) ((hs1.si (by decide) (by decide) : zfr [52] M _).wk (by decide)))
    · intro k hk ih M1 hsh hs1
      show mm_J g E mX8_findSky (fun q M' => q = none ∧ zR_r (s 12) (s 13) (z_mix (z_y1 s) (s 14) 3) r (b || z_df (s 14) (z_y1 s) 3) M' ∧ zfr [35, 50, 52] M M') 6 [(0, .ref (E.1 35)), (1, .int (z_lf (z_ss s) k)), (2, .int (nI k))] [] (M1)
      have hk3 : k < 3 := hk
      have hm := z_sm_le Wp Wo (k := k) (n := s 0 0) hk3 (Nat.le_refl _)
      refine jr_iload_n hg 2 rfl rfl dX8_findSky_6 ?_
      refine jr_iconst hg (nI 3) dX8_findSky_7 (by decide) ?_
      refine jr_icmp_geN (tgt := 72) hg dX8_findSky_8 (by decide) (by omega) (by omega) (fun h => by omega) (fun h8 => ?_)
      refine jr_iconst hg (nI 0) dX8_findSky_11 (by decide) ?_
      refine jr_istore_n hg dX8_findSky_12 rfl (by decide) rfl ?_
      refine jr_iconst hg (nI 0) dX8_findSky_13 (by decide) ?_
      refine jr_istore hg dX8_findSky_14 (by decide) rfl ?_
      have lp16 : ∀ p : Nat, p ≤ s 0 0 →  mm_J g E mX8_findSky (fun q M' => q = none ∧ zR_r (s 12) (s 13) (z_mix (z_y1 s) (s 14) 3) r (b || z_df (s 14) (z_y1 s) 3) M' ∧ zfr [35, 50, 52] M M') 16 [(0, .ref (E.1 35)), (1, .int (z_lf (z_ss s) k)), (2, .int (nI k)), (3, .int (nI ((z_sm s k p)))), (4, .int (nI p))] [] (M1) := by
        refine jr_up (S := fun p =>  mm_J g E mX8_findSky (fun q M' => q = none ∧ zR_r (s 12) (s 13) (z_mix (z_y1 s) (s 14) 3) r (b || z_df (s 14) (z_y1 s) 3) M' ∧ zfr [35, 50, 52] M M') 16 [(0, .ref (E.1 35)), (1, .int (z_lf (z_ss s) k)), (2, .int (nI k)), (3, .int (nI ((z_sm s k p)))), (4, .int (nI p))] [] (M1)) (n := s 0 0) ?_ ?_
        · show mm_J g E mX8_findSky (fun q M' => q = none ∧ zR_r (s 12) (s 13) (z_mix (z_y1 s) (s 14) 3) r (b || z_df (s 14) (z_y1 s) 3) M' ∧ zfr [35, 50, 52] M M') 16 [(0, .ref (E.1 35)), (1, .int (z_lf (z_ss s) k)), (2, .int (nI k)), (3, .int (nI ((z_sm s k (s 0 0))))), (4, .int (nI (s 0 0)))] [] (M1)
          refine jr_iload hg 4 rfl dX8_findSky_16 ?_
          refine jr_aload_n hg 0 rfl rfl dX8_findSky_18 ?_
          refine gf_X8_154 hg (hI 35 (by decide)) dX8_findSky_19 ?_
          refine jr_top ((zfr_p (hs1.wk (by decide)) Rp).1) ?_
          refine jr_icmp_geN (tgt := 45) hg dX8_findSky_22 (by decide) (by omega) (by omega) (fun h22 => ?_) (fun h => by omega)
          refine jr_aload_n hg 0 rfl rfl dX8_findSky_45 ?_
          refine gf_X8_64 hg (hI 35 (by decide)) dX8_findSky_46 ?_
          refine jr_iload_n hg 2 rfl rfl dX8_findSky_49 ?_
          refine jr_iload_n hg 3 rfl rfl dX8_findSky_50 ?_
          refine jr_aload_n hg 0 rfl rfl dX8_findSky_51 ?_
          refine gf_X8_154 hg (hI 35 (by decide)) dX8_findSky_52 ?_
          refine jr_top ((zfr_p (hs1.wk (by decide)) Rp).1) ?_
          refine jr_idivN hg dX8_findSky_55 (by omega) (by omega) (by omega) ?_
          refine jr_iastN hg (n := 3) (by omega) (by decide) (hI 52 (by decide)) (ac_52) dX8_findSky_56 ?_
          refine jr_iload_n hg 1 rfl rfl dX8_findSky_57 ?_
          refine jr_aload_n hg 0 rfl rfl dX8_findSky_58 ?_
          refine gf_X8_64 hg (hI 35 (by decide)) dX8_findSky_59 ?_
          refine jr_iload_n hg 2 rfl rfl dX8_findSky_62 ?_
          refine jr_ialdN hg (n := 3) (by omega) (by decide) (hI 52 (by decide)) (ac_52 _ _) dX8_findSky_63 ?_
          refine jr_top (upd_s) ?_
          refine jr_isub hg dX8_findSky_64 ?_
          refine jr_istore_n hg dX8_findSky_65 rfl (by decide) rfl ?_
          refine jr_iinc hg 2 rfl (nI (_ + 1)) (nI_1 _) dX8_findSky_66 (by decide) rfl ?_
          refine jr_goto (tgt := 6) hg dX8_findSky_69 (by decide) ?_
          exact jr_lv [2, 1, 0] rfl (ih _ (fun j hj => by show upd (M1.1 52) k _ j = _; by_cases e : j = k; rw [e, upd_s]; rfl; rw [upd_n e]; exact hsh j (by omega)) (hs1.si (by decide) (by decide)))
        · intro p hp ih2 
          show mm_J g E mX8_findSky (fun q M' => q = none ∧ zR_r (s 12) (s 13) (z_mix (z_y1 s) (s 14) 3) r (b || z_df (s 14) (z_y1 s) 3) M' ∧ zfr [35, 50, 52] M M') 16 [(0, .ref (E.1 35)), (1, .int (z_lf (z_ss s) k)), (2, .int (nI k)), (3, .int (nI ((z_sm s k p)))), (4, .int (nI p))] [] (M1)
          refine jr_iload hg 4 rfl dX8_findSky_16 ?_
          refine jr_aload_n hg 0 rfl rfl dX8_findSky_18 ?_
          refine gf_X8_154 hg (hI 35 (by decide)) dX8_findSky_19 ?_
          refine jr_top ((zfr_p (hs1.wk (by decide)) Rp).1) ?_
          refine jr_icmp_geN (tgt := 45) hg dX8_findSky_22 (by decide) (by omega) (by omega) (fun h => by omega) (fun h22 => ?_)
          refine jr_iload_n hg 3 rfl rfl dX8_findSky_25 ?_
          refine jr_aload_n hg 0 rfl rfl dX8_findSky_26 ?_
          refine gf_X8_51 hg (hI 35 (by decide)) dX8_findSky_27 ?_
          refine jr_iconst hg (nI 3) dX8_findSky_30 (by decide) ?_
          refine jr_iload hg 4 rfl dX8_findSky_31 ?_
          refine jr_imulN hg dX8_findSky_33 ?_
          refine jr_iload_n hg 2 rfl rfl dX8_findSky_34 ?_
          refine jr_iaddN hg dX8_findSky_35 ?_
          refine jr_ialdN hg (n := 72) (by omega) (by decide) (hI 48 (by decide)) (ac_48 _ _) dX8_findSky_36 ?_
          refine jr_top ((congrFun (hs1.1 48 (by decide)).1 _).trans (hX0.1 _ (by omega))) ?_
          refine jr_iaddN hg dX8_findSky_37 ?_
          refine jr_istore_n hg dX8_findSky_38 rfl (by decide) rfl ?_
          refine jr_iinc hg 4 rfl (nI (_ + 1)) (nI_1 _) dX8_findSky_39 (by decide) rfl ?_
          refine jr_goto (tgt := 16) hg dX8_findSky_42 (by decide) ?_
          exact jr_lv [2, 3, 4, 1, 0] rfl ih2
      exact jr_lv [2, 3, 4, 1, 0] rfl (lp16 0 (by omega))
  exact jr_lv [2, 1, 0] rfl (lp6 0 (by omega) M (fun j hj => by omega) zfr.rf)

theorem z_r0_2 (s : zS) (a b : Nat) : z_r0 (z_r0 s a) b = z_r0 s b := by
  funext c j
  show (if c = 0 then zup (z_r0 s a 0) 5 b else z_r0 s a c) j = (if c = 0 then zup (s 0) 5 b else s c) j
  by_cases h : c = 0
  · rw [if_pos h, if_pos h]
    by_cases e : j = 5
    · rw [e, zup_s, zup_s]
    · rw [zup_n e, zup_n e]
      show zup (s 0) 5 a j = _
      rw [zup_n e]
  · rw [if_neg h, if_neg h]
    show (if c = 0 then _ else s c) j = _
    rw [if_neg h]
theorem z_rd_r0 (s : zS) (a b : Nat) : z_rd (z_r0 s a) b = z_rd s b := by rw [z_rd, z_r0_2]; rfl
theorem z_se_r0 (s : zS) (a r f : Nat) : z_se (z_r0 s a) r (f + 1) = z_se s r (f + 1) := by rw [z_se, z_se, z_r0_2, z_rd_r0]
theorem zR_B0 {s : zS} {M M1 : mm_M} (h : zR s M) (f : mm_same [48, 49, 50] M M1) (a : ∀ j, j < 72 → M1.1 48 j = nI (z_o0 j)) (b : ∀ j, j < 96 → M1.1 49 j = nI (z_t0 j)) (c : ∀ j, j < 3 → M1.1 50 j = nI (z_y0 j)) :
    zR (z_r0 (z_B s) 0) (mm_si (mm_si M1 35 (upd (M1.1 35) 25 (nI 0))) 35 (upd ((mm_si M1 35 (upd (M1.1 35) 25 (nI 0))).1 35) 27 (nI 1))) := by
  have g : zfr zRC M (mm_si (mm_si M1 35 (upd (M1.1 35) 25 (nI 0))) 35 (upd ((mm_si M1 35 (upd (M1.1 35) 25 (nI 0))).1 35) 27 (nI 1))) := ((show zfr zRC M M1 from ⟨f.wk (by decide), fun j _ _ => by rw [(f 35 (by decide)).1]⟩).fl (by decide) (Or.inl rfl)).fl (by decide) (Or.inr rfl)
  exact ⟨zfr_p g h.1, zfr_l g h.2.1, zfr_k g h.2.2.1, zfr_w g h.2.2.2.1, zfr_t g h.2.2.2.2.1, zfr_d g h.2.2.2.2.2.1, ⟨a, b, c, rfl⟩, zfr_q g h.2.2.2.2.2.2.2⟩
theorem zR_rd {t : zS} {M M1 : mm_M} {r : Nat} {b : Bool} (h : zR t M) (g : zfr zRC M M1) (x : zR_r (z_R1 (z_r0 t r) 12) (z_t1 (z_R1 (z_r0 t r))) (z_y1 (z_R2 (z_R1 (z_r0 t r)))) r b M1) : zR (z_rd t r) M1 :=
  ⟨zfr_p g h.1, zfr_l g h.2.1, zfr_k g h.2.2.1, zfr_w g h.2.2.2.1, zfr_t g h.2.2.2.2.1, zfr_d g h.2.2.2.2.2.1, ⟨x.1, x.2.1, x.2.2.1, x.2.2.2.2⟩, zfr_q g h.2.2.2.2.2.2.2⟩
theorem zR_r_tf {s : zS} (Wk : zW_k s) (h8 : s 0 1 ≤ 8) {o y : Nat → Nat} {r : Nat} {b : Bool} {M : mm_M} (h : zR_r o (z_mix (z_t1 s) (s 13) (12 * s 0 1)) y r (b || z_df (s 13) (z_t1 s) (12 * s 0 1)) M) : zR_r o (z_t1 s) y r (b || z_df (s 13) (z_t1 s) 96) M := by
  have e : ∀ j, 12 * s 0 1 ≤ j → j < 96 → s 13 j = z_t1 s j := fun j h1 h2 => by rw [z_t1, if_pos (z_tw_0 Wk (by omega))]
  rw [z_df_same (m := 12 * s 0 1) (by omega) e]
  refine ⟨h.1, fun j hj => ?_, h.2.2⟩
  rw [h.2.1 j hj, z_mix]
  by_cases q : j < 12 * s 0 1
  · rw [if_pos q]
  · rw [if_neg q, e j (by omega) hj]
theorem z_RF_0 {s : zS} (h : s 0 0 = 0) : z_RF s = (z_df (s 12) (z_o1 s) (3 * s 0 0) || z_df (s 13) (z_t1 (z_R1 s)) 96) := by
  rw [z_RF, show z_y1 (z_R2 (z_R1 s)) = s 14 from if_pos h, z_df_rf, Bool.or_false]

set_option maxRecDepth 100000 in
theorem c_X8_reckon {E : mm_E} (hI : mm_FR E) {M : mm_M} {s : zS} (hR : zR s M) (hW : zW s) : mm_Cal E mX8_reckon [.ref (E.1 35)] M (fun v M' => v = some (.int (zq_reckon s).1) ∧ zR (zq_reckon s).2 M') := by
  obtain ⟨Rp, Rl, Rk, Rw, Rt, Rd, Ro, Rq⟩ := hR
  obtain ⟨Wp, Wl, Wk, Ww, Wt, Wd, Wo, Wq⟩ := hW
  have hnp := Wp.1
  have hnl := Wl.1
  have hnk := Wk.1
  have rall : zR s M := ⟨Rp, Rl, Rk, Rw, Rt, Rd, Ro, Rq⟩
  have wall : zW s := ⟨Wp, Wl, Wk, Ww, Wt, Wd, Wo, Wq⟩
  refine jr_entry RX8 (by decide +kernel) (Nat.le_of_ble_eq_true rfl) (fun g hg => ?_)
  refine jr_lv (lv' := [(0, .ref (E.1 35))]) [0] rfl ?_
  refine jr_aload_n hg 0 rfl rfl dX8_reckon_0 ?_
  refine jr_cV0p hg lk_X8_92 (hI 35 (by decide)) rfl rfl (by decide) (by decide) (Nat.le_of_ble_eq_true rfl) dX8_reckon_1 (c_X8_beginOdds (fun c hc => hI c (by revert hc; revert c; decide))) (fun r M' h => ?_)
  obtain ⟨rfl, b1, b2, b3, fB⟩ := h
  refine jr_st (show _ = [] from rfl) ?_
  refine jr_aload_n hg 0 rfl rfl dX8_reckon_4 ?_
  refine jr_iconst hg (nI 0) dX8_reckon_5 (by decide) ?_
  refine pf_X8_204 hg (hI 35 (by decide)) dX8_reckon_6 ?_
  refine jr_aload_n hg 0 rfl rfl dX8_reckon_9 ?_
  refine jr_iconst hg (nI 1) dX8_reckon_10 (by decide) ?_
  refine pf_X8_249 hg (by first | exact Or.inl rfl | exact Or.inr rfl | exact z01 _) (hI 35 (by decide)) dX8_reckon_11 ?_
  have lp14 : ∀ n : Nat, n ≤ 40 → ∀ (M1 : mm_M) (t : zS) (b : Bool), zR t M1 → zW t → t 0 5 = n → M1.1 35 27 = nI b.toNat → zfr zRC M M1 → (if b = true then z_se t n (40 - n) else (t, nI n)) = z_rk s → mm_J g E mX8_reckon (fun v M' => v = some (.int (zq_reckon s).1) ∧ zR (zq_reckon s).2 M') 14 [(0, .ref (E.1 35))] [] (M1) := by
    refine jr_up (S := fun n => ∀ (M1 : mm_M) (t : zS) (b : Bool), zR t M1 → zW t → t 0 5 = n → M1.1 35 27 = nI b.toNat → zfr zRC M M1 → (if b = true then z_se t n (40 - n) else (t, nI n)) = z_rk s → mm_J g E mX8_reckon (fun v M' => v = some (.int (zq_reckon s).1) ∧ zR (zq_reckon s).2 M') 14 [(0, .ref (E.1 35))] [] (M1)) (n := 40) ?_ ?_
    · intro M1 t b hX hU hr hfl hs hz
      show mm_J g E mX8_reckon (fun v M' => v = some (.int (zq_reckon s).1) ∧ zR (zq_reckon s).2 M') 14 [(0, .ref (E.1 35))] [] (M1)
      have hrn : M1.1 35 25 = nI 40 := by have q := hX.2.2.2.2.2.2.1.2.2.2; rw [hr] at q; exact q
      refine jr_aload_n hg 0 rfl rfl dX8_reckon_14 ?_
      refine gf_X8_249 hg (hI 35 (by decide)) dX8_reckon_15 ?_
      refine jr_top (hfl) ?_
      refine jr_if_eqZ (tgt := 101) hg dX8_reckon_18 (by decide) (fun h18 => ?_) (fun h18 => ?_)
      · refine jr_aload_n hg 0 rfl rfl dX8_reckon_101 ?_
        refine gf_X8_249 hg (hI 35 (by decide)) dX8_reckon_102 ?_
        refine jr_top (hfl) ?_
        refine jr_if_eqZ (tgt := 113) hg dX8_reckon_105 (by decide) (fun h105 => ?_) (fun h => by rw [h18] at h; cases h)
        refine jr_aload_n hg 0 rfl rfl dX8_reckon_113 ?_
        refine gf_X8_204 hg (hI 35 (by decide)) dX8_reckon_114 ?_
        refine jr_top (hrn) ?_
        exact jr_iret hg rfl dX8_reckon_117 (zq_okR (by rw [zq_reckon, ← hz, h18]; rfl) hX)
      · refine jr_aload_n hg 0 rfl rfl dX8_reckon_21 ?_
        refine gf_X8_204 hg (hI 35 (by decide)) dX8_reckon_22 ?_
        refine jr_top (hrn) ?_
        refine jr_bipush hg (nI 40) dX8_reckon_25 (by decide) ?_
        refine jr_icmp_geN (tgt := 101) hg dX8_reckon_27 (by decide) (by omega) (by omega) (fun h27 => ?_) (fun h => by omega)
        refine jr_aload_n hg 0 rfl rfl dX8_reckon_101 ?_
        refine gf_X8_249 hg (hI 35 (by decide)) dX8_reckon_102 ?_
        refine jr_top (hfl) ?_
        refine jr_if_eqZ (tgt := 113) hg dX8_reckon_105 (by decide) (fun h => by rw [h18] at h; cases h) (fun h105 => ?_)
        refine jr_bipush hg (-41) dX8_reckon_108 (by decide) ?_
        refine jr_goto (tgt := 117) hg dX8_reckon_110 (by decide) ?_
        exact jr_iret hg rfl dX8_reckon_117 (zq_okR (by rw [zq_reckon, ← hz, h18]; rfl) hX)
    · intro n hn ih M1 t b hX hU hr hfl hs hz
      show mm_J g E mX8_reckon (fun v M' => v = some (.int (zq_reckon s).1) ∧ zR (zq_reckon s).2 M') 14 [(0, .ref (E.1 35))] [] (M1)
      have hrn : M1.1 35 25 = nI n := by have q := hX.2.2.2.2.2.2.1.2.2.2; rw [hr] at q; exact q
      have ht0 := hU.1.1
      have ht1 := hU.2.1.1
      have hW0 := zW_r0 hU (r := n + 1) (by omega)
      have hW1 := zW_R1 hW0
      have hW2 := zW_R2 hW1
      refine jr_aload_n hg 0 rfl rfl dX8_reckon_14 ?_
      refine gf_X8_249 hg (hI 35 (by decide)) dX8_reckon_15 ?_
      refine jr_top (hfl) ?_
      refine jr_if_eqZ (tgt := 101) hg dX8_reckon_18 (by decide) (fun h18 => ?_) (fun h18 => ?_)
      · refine jr_aload_n hg 0 rfl rfl dX8_reckon_101 ?_
        refine gf_X8_249 hg (hI 35 (by decide)) dX8_reckon_102 ?_
        refine jr_top (hfl) ?_
        refine jr_if_eqZ (tgt := 113) hg dX8_reckon_105 (by decide) (fun h105 => ?_) (fun h => by rw [h18] at h; cases h)
        refine jr_aload_n hg 0 rfl rfl dX8_reckon_113 ?_
        refine gf_X8_204 hg (hI 35 (by decide)) dX8_reckon_114 ?_
        refine jr_top (hrn) ?_
        exact jr_iret hg rfl dX8_reckon_117 (zq_okR (by rw [zq_reckon, ← hz, h18]; rfl) hX)
      · refine jr_aload_n hg 0 rfl rfl dX8_reckon_21 ?_
        refine gf_X8_204 hg (hI 35 (by decide)) dX8_reckon_22 ?_
        refine jr_top (hrn) ?_
        refine jr_bipush hg (nI 40) dX8_reckon_25 (by decide) ?_
        refine jr_icmp_geN (tgt := 101) hg dX8_reckon_27 (by decide) (by omega) (by omega) (fun h => by omega) (fun h27 => ?_)
        refine jr_aload_n hg 0 rfl rfl dX8_reckon_30 ?_
        refine jr_iconst hg (nI 0) dX8_reckon_31 (by decide) ?_
        refine pf_X8_249 hg (by first | exact Or.inl rfl | exact Or.inr rfl | exact z01 _) (hI 35 (by decide)) dX8_reckon_32 ?_
        refine jr_aload_n hg 0 rfl rfl dX8_reckon_35 ?_
        refine jr_dup hg dX8_reckon_36 rfl ?_
        refine gf_X8_204 hg (hI 35 (by decide)) dX8_reckon_37 ?_
        refine jr_top (hrn) ?_
        refine jr_iconst hg (nI 1) dX8_reckon_40 (by decide) ?_
        refine jr_iaddN hg dX8_reckon_41 ?_
        refine pf_X8_204 hg (hI 35 (by decide)) dX8_reckon_42 ?_
        refine jr_iconst hg (nI 0) dX8_reckon_45 (by decide) ?_
        refine jr_istore_n hg dX8_reckon_46 rfl (by decide) rfl ?_
        have lp47 : ∀ p : Nat, p ≤ t 0 0 → ∀ M2, zR_r (z_mix (z_o1 (z_r0 t (n + 1))) (t 12) (3 * p)) (t 13) (t 14) (n + 1) (false || z_df (t 12) (z_o1 (z_r0 t (n + 1))) (3 * p)) M2 → zfr zRC M1 M2 → mm_J g E mX8_reckon (fun v M' => v = some (.int (zq_reckon s).1) ∧ zR (zq_reckon s).2 M') 47 [(0, .ref (E.1 35)), (1, .int (nI p))] [] (M2) := by
          refine jr_up (S := fun p => ∀ M2, zR_r (z_mix (z_o1 (z_r0 t (n + 1))) (t 12) (3 * p)) (t 13) (t 14) (n + 1) (false || z_df (t 12) (z_o1 (z_r0 t (n + 1))) (3 * p)) M2 → zfr zRC M1 M2 → mm_J g E mX8_reckon (fun v M' => v = some (.int (zq_reckon s).1) ∧ zR (zq_reckon s).2 M') 47 [(0, .ref (E.1 35)), (1, .int (nI p))] [] (M2)) (n := t 0 0) ?_ ?_
          · intro M2 hx2 hs2
            show mm_J g E mX8_reckon (fun v M' => v = some (.int (zq_reckon s).1) ∧ zR (zq_reckon s).2 M') 47 [(0, .ref (E.1 35)), (1, .int (nI (t 0 0)))] [] (M2)
            have Rp9 : M2.1 35 9 = nI (t 0 0) := (zfr_p hs2 hX.1).1
            have hx2e : zR_r ((z_R1 (z_r0 t (n + 1))) 12) ((z_R1 (z_r0 t (n + 1))) 13) ((z_R1 (z_r0 t (n + 1))) 14) (n + 1) (false || z_df (t 12) (z_o1 (z_r0 t (n + 1))) (3 * t 0 0)) M2 := by rw [z_mix_eq (new := z_o1 (z_r0 t (n + 1))) (old := t 12) (n := 3 * t 0 0) (fun j hj => if_neg (Nat.not_lt.mpr hj))] at hx2; exact hx2
            refine jr_iload_n hg 1 rfl rfl dX8_reckon_47 ?_
            refine jr_aload_n hg 0 rfl rfl dX8_reckon_48 ?_
            refine gf_X8_154 hg (hI 35 (by decide)) dX8_reckon_49 ?_
            refine jr_top (Rp9) ?_
            refine jr_icmp_geN (tgt := 66) hg dX8_reckon_52 (by decide) (by omega) (by omega) (fun h52 => ?_) (fun h => by omega)
            refine jr_iconst hg (nI 0) dX8_reckon_66 (by decide) ?_
            refine jr_istore_n hg dX8_reckon_67 rfl (by decide) rfl ?_
            have lp68 : ∀ l : Nat, l ≤ t 0 1 → ∀ M3, zR_r ((z_R1 (z_r0 t (n + 1))) 12) (z_mix (z_t1 (z_R1 (z_r0 t (n + 1)))) ((z_R1 (z_r0 t (n + 1))) 13) (12 * l)) ((z_R1 (z_r0 t (n + 1))) 14) (n + 1) ((false || z_df (t 12) (z_o1 (z_r0 t (n + 1))) (3 * t 0 0)) || z_df ((z_R1 (z_r0 t (n + 1))) 13) (z_t1 (z_R1 (z_r0 t (n + 1)))) (12 * l)) M3 → zfr zRC M1 M3 → mm_J g E mX8_reckon (fun v M' => v = some (.int (zq_reckon s).1) ∧ zR (zq_reckon s).2 M') 68 [(0, .ref (E.1 35)), (1, .int (nI l))] [] (M3) := by
              refine jr_up (S := fun l => ∀ M3, zR_r ((z_R1 (z_r0 t (n + 1))) 12) (z_mix (z_t1 (z_R1 (z_r0 t (n + 1)))) ((z_R1 (z_r0 t (n + 1))) 13) (12 * l)) ((z_R1 (z_r0 t (n + 1))) 14) (n + 1) ((false || z_df (t 12) (z_o1 (z_r0 t (n + 1))) (3 * t 0 0)) || z_df ((z_R1 (z_r0 t (n + 1))) 13) (z_t1 (z_R1 (z_r0 t (n + 1)))) (12 * l)) M3 → zfr zRC M1 M3 → mm_J g E mX8_reckon (fun v M' => v = some (.int (zq_reckon s).1) ∧ zR (zq_reckon s).2 M') 68 [(0, .ref (E.1 35)), (1, .int (nI l))] [] (M3)) (n := t 0 1) ?_ ?_
              · intro M3 hx3 hs3
                show mm_J g E mX8_reckon (fun v M' => v = some (.int (zq_reckon s).1) ∧ zR (zq_reckon s).2 M') 68 [(0, .ref (E.1 35)), (1, .int (nI (t 0 1)))] [] (M3)
                have Rp9 : M3.1 35 9 = nI (t 0 0) := (zfr_p hs3 hX.1).1
                have Rl15 : M3.1 35 15 = nI (t 0 1) := (zfr_l hs3 hX.2.1).1
                have hx5 := zR_r_tf (s := (z_R1 (z_r0 t (n + 1)))) hW1.2.2.1 ht1 hx3
                refine jr_iload_n hg 1 rfl rfl dX8_reckon_68 ?_
                refine jr_aload_n hg 0 rfl rfl dX8_reckon_69 ?_
                refine gf_X8_165 hg (hI 35 (by decide)) dX8_reckon_70 ?_
                refine jr_top (Rl15) ?_
                refine jr_icmp_geN (tgt := 87) hg dX8_reckon_73 (by decide) (by omega) (by omega) (fun h73 => ?_) (fun h => by omega)
                refine jr_aload_n hg 0 rfl rfl dX8_reckon_87 ?_
                refine gf_X8_154 hg (hI 35 (by decide)) dX8_reckon_88 ?_
                refine jr_top (Rp9) ?_
                refine jr_if_leN (tgt := 14) hg dX8_reckon_91 (by decide) (by omega) (fun h91 => ?_) (fun h91 => ?_)
                · have hy0 : z_y1 (z_R2 (z_R1 (z_r0 t (n + 1)))) = t 14 := if_pos h91
                  have hx6 : zR_r ((z_R1 (z_r0 t (n + 1))) 12) (z_t1 (z_R1 (z_r0 t (n + 1)))) (z_y1 (z_R2 (z_R1 (z_r0 t (n + 1))))) (n + 1) (z_RF (z_r0 t (n + 1))) M3 := by rw [hy0, z_RF_0 (s := (z_r0 t (n + 1))) h91]; exact hx5
                  exact jr_lv [0] rfl (ih M3 (z_rd t (n + 1)) (z_RF (z_r0 t (n + 1))) (zR_rd hX hs3 hx6) (zW_rd hU (by omega)) rfl hx6.2.2.2.1 (hs.tr hs3) (by rw [← hz, if_pos h18, show 40 - n = (40 - (n + 1)) + 1 by omega, z_se]))
                · refine jr_aload_n hg 0 rfl rfl dX8_reckon_94 ?_
                  refine jr_cV0p hg lk_X8_266 (hI 35 (by decide)) rfl rfl (by decide) (by decide) (Nat.le_of_ble_eq_true rfl) dX8_reckon_95 (c_X8_findSky (s := (z_R2 (z_R1 (z_r0 t (n + 1))))) hI (zfr_p hs3 hX.1) hW2.1 hW2.2.2.2.2.2.2.1 h91 hx5) (fun r M' h => ?_)
                  obtain ⟨rfl, x, f⟩ := h
                  refine jr_st (show _ = [] from rfl) ?_
                  refine jr_goto (tgt := 14) hg dX8_reckon_98 (by decide) ?_
                  have hx6 : zR_r ((z_R1 (z_r0 t (n + 1))) 12) (z_t1 (z_R1 (z_r0 t (n + 1)))) (z_y1 (z_R2 (z_R1 (z_r0 t (n + 1))))) (n + 1) (z_RF (z_r0 t (n + 1))) M' := ⟨x.1, x.2.1, fun j hj => by rw [x.2.2.1 j hj, z_mix, if_pos hj], x.2.2.2⟩
                  exact jr_lv [0] rfl (ih M' (z_rd t (n + 1)) (z_RF (z_r0 t (n + 1))) (zR_rd hX (hs3.tr (f.wk (by decide))) hx6) (zW_rd hU (by omega)) rfl hx6.2.2.2.1 (hs.tr (hs3.tr (f.wk (by decide)))) (by rw [← hz, if_pos h18, show 40 - n = (40 - (n + 1)) + 1 by omega, z_se]))
              · intro l hl ih3 M3 hx3 hs3
                show mm_J g E mX8_reckon (fun v M' => v = some (.int (zq_reckon s).1) ∧ zR (zq_reckon s).2 M') 68 [(0, .ref (E.1 35)), (1, .int (nI l))] [] (M3)
                have Rl15 : M3.1 35 15 = nI (t 0 1) := (zfr_l hs3 hX.2.1).1
                refine jr_iload_n hg 1 rfl rfl dX8_reckon_68 ?_
                refine jr_aload_n hg 0 rfl rfl dX8_reckon_69 ?_
                refine gf_X8_165 hg (hI 35 (by decide)) dX8_reckon_70 ?_
                refine jr_top (Rl15) ?_
                refine jr_icmp_geN (tgt := 87) hg dX8_reckon_73 (by decide) (by omega) (by omega) (fun h => by omega) (fun h73 => ?_)
                refine jr_aload_n hg 0 rfl rfl dX8_reckon_76 ?_
                refine jr_iload_n hg 1 rfl rfl dX8_reckon_77 ?_
                refine jr_cV1p hg lk_X8_263 (hI 35 (by decide)) rfl rfl (by decide) (by decide) (Nat.le_of_ble_eq_true rfl) dX8_reckon_78 (c_X8_findTable (s := (z_R1 (z_r0 t (n + 1)))) hI (zfr_p hs3 hX.1) (zfr_k hs3 hX.2.2.1) hW1.1 hW1.2.2.1 hW1.2.2.2.2.2.2.1 ht1 hl hx3) (fun r M' h => ?_)
                obtain ⟨rfl, x, f⟩ := h
                refine jr_st (show _ = [] from rfl) ?_
                refine jr_iinc hg 1 rfl (nI (_ + 1)) (nI_1 _) dX8_reckon_81 (by decide) rfl ?_
                refine jr_goto (tgt := 68) hg dX8_reckon_84 (by decide) ?_
                exact jr_lv [1, 0] rfl (ih3 M' x (hs3.tr (f.wk (by decide))))
            exact jr_lv [1, 0] rfl (lp68 0 (by omega) M2 (zR_r_0t hx2e) hs2)
          · intro p hp ih2 M2 hx2 hs2
            show mm_J g E mX8_reckon (fun v M' => v = some (.int (zq_reckon s).1) ∧ zR (zq_reckon s).2 M') 47 [(0, .ref (E.1 35)), (1, .int (nI p))] [] (M2)
            have Rp9 : M2.1 35 9 = nI (t 0 0) := (zfr_p hs2 hX.1).1
            refine jr_iload_n hg 1 rfl rfl dX8_reckon_47 ?_
            refine jr_aload_n hg 0 rfl rfl dX8_reckon_48 ?_
            refine gf_X8_154 hg (hI 35 (by decide)) dX8_reckon_49 ?_
            refine jr_top (Rp9) ?_
            refine jr_icmp_geN (tgt := 66) hg dX8_reckon_52 (by decide) (by omega) (by omega) (fun h => by omega) (fun h52 => ?_)
            refine jr_aload_n hg 0 rfl rfl dX8_reckon_55 ?_
            refine jr_iload_n hg 1 rfl rfl dX8_reckon_56 ?_
            refine jr_cV1p hg lk_X8_259 (hI 35 (by decide)) rfl rfl (by decide) (by decide) (Nat.le_of_ble_eq_true rfl) dX8_reckon_57 (c_X8_findOdds (s := (z_r0 t (n + 1))) hI (zfr_p hs2 hX.1) (zfr_k hs2 hX.2.2.1) hW0.1 hW0.2.2.1 hW0.2.2.2.2.2.2.1 ht1 hp hx2) (fun r M' h => ?_)
            obtain ⟨rfl, x, f⟩ := h
            refine jr_st (show _ = [] from rfl) ?_
            refine jr_iinc hg 1 rfl (nI (_ + 1)) (nI_1 _) dX8_reckon_60 (by decide) rfl ?_
            refine jr_goto (tgt := 47) hg dX8_reckon_63 (by decide) ?_
            exact jr_lv [1, 0] rfl (ih2 M' x (hs2.tr (f.wk (by decide))))
        exact jr_lv [1, 0] rfl (lp47 0 (by omega) _ (zR_r_0o ⟨hX.2.2.2.2.2.2.1.1, hX.2.2.2.2.2.2.1.2.1, hX.2.2.2.2.2.2.1.2.2.1, rfl, rfl⟩) ((zfr.rf.fl (by decide) (Or.inr rfl)).fl (by decide) (Or.inl rfl)))
  exact jr_lv [0] rfl (lp14 0 (by omega) _ (z_r0 (z_B s) 0) true (zR_B0 rall fB b1 b2 b3) (zW_r0 (zW_B wall) (by decide)) rfl rfl (((show zfr zRC M M' from ⟨fB.wk (by decide), fun j _ _ => by rw [(fB 35 (by decide)).1]⟩).fl (by decide) (Or.inl rfl)).fl (by decide) (Or.inr rfl)) (by rw [if_pos rfl, z_se_r0]; rfl))
