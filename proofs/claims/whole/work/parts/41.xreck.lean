def zX_r (o t y : Nat → Nat) (r : Nat) (b : Bool) (M : mm_M) : Prop := (∀ j, j < 72 → M.1 30 j = nI (o j)) ∧ (∀ j, j < 96 → M.1 31 j = nI (t j)) ∧ (∀ j, j < 3 → M.1 32 j = nI (y j)) ∧ M.1 6 5 = nI b.toNat ∧ M.1 6 6 = nI r
theorem zup_id {f : Nat → Nat} {i v : Nat} (h : f i = v) : zup f i v = f := by
  funext j
  by_cases e : j = i
  · subst e; rw [zup_s, h]
  · rw [zup_n e]
theorem zne_f {a v : Nat} (h : a = v) (b : Bool) : (b || a != v) = b := by subst h; simp
theorem zne_t {a v : Nat} (h : a ≠ v) (b : Bool) : (b || a != v) = true := by simp [h]
theorem zrow_up {f : Nat → Int32} {g : Nat → Nat} {n i v : Nat} (h : ∀ j, j < n → f j = nI (g j)) : ∀ j, j < n → upd f i (nI v) j = nI (zup g i v j) := by
  intro j hj
  by_cases e : j = i
  · subst e; rw [upd_s, zup_s]
  · rw [upd_n e, zup_n e, h j hj]
theorem z_df_s (b : Bool) (n o : Nat → Nat) (i : Nat) : ((b || z_df o n i) || z_mix n o i i != n i) = (b || z_df o n (i + 1)) := by rw [z_mix_at, z_df, Bool.or_assoc]
theorem lN_ne0 {n : Nat} (h0 : 0 < n) (h : n < 2 ^ 63) : ¬ lN n = 0 := fun e => by
  have := (pk_lEQ h (by decide)).mp (e.trans (show (0 : Int64) = lN 0 from rfl))
  omega
theorem zmax1 {a b : Nat} (ha : a < 2 ^ 30) (hb : b < 2 ^ 30) : (if nI 1 < nI a - nI b then nI a - nI b else nI 1) = nI (max 1 (a - b)) := by
  by_cases h : b + 1 < a
  · have e : nI a - nI b = nI (a - b) := pk_sub (by omega)
    rw [e, if_pos (nI_lt (by omega) (by omega)), Nat.max_eq_right (by omega)]
  · rw [Nat.max_eq_left (by omega), if_neg]
    intro q
    rw [Int32.lt_iff_toInt_lt, pk_sub_toInt ha hb, nI_toInt (by decide)] at q
    omega

set_option maxRecDepth 100000 in
theorem c_X6_begin {E : mm_E} (hI : ∀ c, c ∈ [6, 30, 31, 32] → c ∈ E.2.1) {M : mm_M}  : mm_Cal E mX6_begin [.ref (E.1 6)] M (fun v M' => v = none ∧ (∀ j, j < 72 → M'.1 30 j = nI (z_o0 j)) ∧ (∀ j, j < 96 → M'.1 31 j = nI (z_t0 j)) ∧ (∀ j, j < 3 → M'.1 32 j = nI (z_y0 j)) ∧ mm_same [30, 31, 32] M M') := by
  refine jr_entry RX6 (by decide +kernel) (Nat.le_of_ble_eq_true rfl) (fun g hg => ?_)
  refine jr_lv (lv' := [(0, .ref (E.1 6))]) [0] rfl ?_
  refine jr_iconst hg (nI 0) dX6_begin_0 (by decide) ?_
  refine jr_istore_n hg dX6_begin_1 rfl (by decide) rfl ?_
  have lp2 : ∀ i : Nat, i ≤ 72 → ∀ M1, (∀ j, j < i → M1.1 30 j = nI (z_o0 j)) → mm_same [30, 31, 32] M M1 → mm_J g E mX6_begin (fun v M' => v = none ∧ (∀ j, j < 72 → M'.1 30 j = nI (z_o0 j)) ∧ (∀ j, j < 96 → M'.1 31 j = nI (z_t0 j)) ∧ (∀ j, j < 3 → M'.1 32 j = nI (z_y0 j)) ∧ mm_same [30, 31, 32] M M') 2 [(0, .ref (E.1 6)), (1, .int (nI i))] [] (M1) := by
    refine jr_up (S := fun i => ∀ M1, (∀ j, j < i → M1.1 30 j = nI (z_o0 j)) → mm_same [30, 31, 32] M M1 → mm_J g E mX6_begin (fun v M' => v = none ∧ (∀ j, j < 72 → M'.1 30 j = nI (z_o0 j)) ∧ (∀ j, j < 96 → M'.1 31 j = nI (z_t0 j)) ∧ (∀ j, j < 3 → M'.1 32 j = nI (z_y0 j)) ∧ mm_same [30, 31, 32] M M') 2 [(0, .ref (E.1 6)), (1, .int (nI i))] [] (M1)) (n := 72) ?_ ?_
    · intro M1 hrow hs
      show mm_J g E mX6_begin (fun v M' => v = none ∧ (∀ j, j < 72 → M'.1 30 j = nI (z_o0 j)) ∧ (∀ j, j < 96 → M'.1 31 j = nI (z_t0 j)) ∧ (∀ j, j < 3 → M'.1 32 j = nI (z_y0 j)) ∧ mm_same [30, 31, 32] M M') 2 [(0, .ref (E.1 6)), (1, .int (nI (72)))] [] (M1)
      refine jr_iload_n hg 1 rfl rfl dX6_begin_2 ?_
      refine jr_aload_n hg 0 rfl rfl dX6_begin_3 ?_
      refine gf_X6_9 hg (hI 6 (by decide)) dX6_begin_4 ?_
      refine jr_alen hg (t0 := 0) (hI 30 (by decide)) (ac_30 _ _) rfl rfl dX6_begin_7 ?_
      refine jr_icmp_geN (tgt := 38) hg dX6_begin_8 (by decide) (by omega) (by omega) (fun h8 => ?_) (fun h => by omega)
      refine jr_iconst hg (nI 0) dX6_begin_38 (by decide) ?_
      refine jr_istore_n hg dX6_begin_39 rfl (by decide) rfl ?_
      have lp40 : ∀ i : Nat, i ≤ 96 → ∀ M2, (∀ j, j < i → M2.1 31 j = nI (z_t0 j)) → (∀ j, j < 72 → M2.1 30 j = nI (z_o0 j)) → mm_same [30, 31, 32] M M2 → mm_J g E mX6_begin (fun v M' => v = none ∧ (∀ j, j < 72 → M'.1 30 j = nI (z_o0 j)) ∧ (∀ j, j < 96 → M'.1 31 j = nI (z_t0 j)) ∧ (∀ j, j < 3 → M'.1 32 j = nI (z_y0 j)) ∧ mm_same [30, 31, 32] M M') 40 [(0, .ref (E.1 6)), (1, .int (nI i))] [] (M2) := by
        refine jr_up (S := fun i => ∀ M2, (∀ j, j < i → M2.1 31 j = nI (z_t0 j)) → (∀ j, j < 72 → M2.1 30 j = nI (z_o0 j)) → mm_same [30, 31, 32] M M2 → mm_J g E mX6_begin (fun v M' => v = none ∧ (∀ j, j < 72 → M'.1 30 j = nI (z_o0 j)) ∧ (∀ j, j < 96 → M'.1 31 j = nI (z_t0 j)) ∧ (∀ j, j < 3 → M'.1 32 j = nI (z_y0 j)) ∧ mm_same [30, 31, 32] M M') 40 [(0, .ref (E.1 6)), (1, .int (nI i))] [] (M2)) (n := 96) ?_ ?_
        · intro M2 hrow hro hs
          show mm_J g E mX6_begin (fun v M' => v = none ∧ (∀ j, j < 72 → M'.1 30 j = nI (z_o0 j)) ∧ (∀ j, j < 96 → M'.1 31 j = nI (z_t0 j)) ∧ (∀ j, j < 3 → M'.1 32 j = nI (z_y0 j)) ∧ mm_same [30, 31, 32] M M') 40 [(0, .ref (E.1 6)), (1, .int (nI (96)))] [] (M2)
          refine jr_iload_n hg 1 rfl rfl dX6_begin_40 ?_
          refine jr_aload_n hg 0 rfl rfl dX6_begin_41 ?_
          refine gf_X6_15 hg (hI 6 (by decide)) dX6_begin_42 ?_
          refine jr_alen hg (t0 := 0) (hI 31 (by decide)) (ac_31 _ _) rfl rfl dX6_begin_45 ?_
          refine jr_icmp_geN (tgt := 79) hg dX6_begin_46 (by decide) (by omega) (by omega) (fun h46 => ?_) (fun h => by omega)
          refine jr_iconst hg (nI 0) dX6_begin_79 (by decide) ?_
          refine jr_istore_n hg dX6_begin_80 rfl (by decide) rfl ?_
          have lp81 : ∀ i : Nat, i ≤ 3 → ∀ M3, (∀ j, j < i → M3.1 32 j = nI (z_y0 j)) → (∀ j, j < 72 → M3.1 30 j = nI (z_o0 j)) → (∀ j, j < 96 → M3.1 31 j = nI (z_t0 j)) → mm_same [30, 31, 32] M M3 → mm_J g E mX6_begin (fun v M' => v = none ∧ (∀ j, j < 72 → M'.1 30 j = nI (z_o0 j)) ∧ (∀ j, j < 96 → M'.1 31 j = nI (z_t0 j)) ∧ (∀ j, j < 3 → M'.1 32 j = nI (z_y0 j)) ∧ mm_same [30, 31, 32] M M') 81 [(0, .ref (E.1 6)), (1, .int (nI i))] [] (M3) := by
            refine jr_up (S := fun i => ∀ M3, (∀ j, j < i → M3.1 32 j = nI (z_y0 j)) → (∀ j, j < 72 → M3.1 30 j = nI (z_o0 j)) → (∀ j, j < 96 → M3.1 31 j = nI (z_t0 j)) → mm_same [30, 31, 32] M M3 → mm_J g E mX6_begin (fun v M' => v = none ∧ (∀ j, j < 72 → M'.1 30 j = nI (z_o0 j)) ∧ (∀ j, j < 96 → M'.1 31 j = nI (z_t0 j)) ∧ (∀ j, j < 3 → M'.1 32 j = nI (z_y0 j)) ∧ mm_same [30, 31, 32] M M') 81 [(0, .ref (E.1 6)), (1, .int (nI i))] [] (M3)) (n := 3) ?_ ?_
            · intro M3 hrow hro hrt hs
              show mm_J g E mX6_begin (fun v M' => v = none ∧ (∀ j, j < 72 → M'.1 30 j = nI (z_o0 j)) ∧ (∀ j, j < 96 → M'.1 31 j = nI (z_t0 j)) ∧ (∀ j, j < 3 → M'.1 32 j = nI (z_y0 j)) ∧ mm_same [30, 31, 32] M M') 81 [(0, .ref (E.1 6)), (1, .int (nI (3)))] [] (M3)
              refine jr_iload_n hg 1 rfl rfl dX6_begin_81 ?_
              refine jr_aload_n hg 0 rfl rfl dX6_begin_82 ?_
              refine gf_X6_18 hg (hI 6 (by decide)) dX6_begin_83 ?_
              refine jr_alen hg (t0 := 0) (hI 32 (by decide)) (ac_32 _ _) rfl rfl dX6_begin_86 ?_
              refine jr_icmp_geN (tgt := 115) hg dX6_begin_87 (by decide) (by omega) (by omega) (fun h87 => ?_) (fun h => by omega)
              exact jr_vret hg rfl dX6_begin_115 (⟨rfl, hro, hrt, hrow, hs⟩)
            · intro i hi ih3 M3 hrow hro hrt hs
              show mm_J g E mX6_begin (fun v M' => v = none ∧ (∀ j, j < 72 → M'.1 30 j = nI (z_o0 j)) ∧ (∀ j, j < 96 → M'.1 31 j = nI (z_t0 j)) ∧ (∀ j, j < 3 → M'.1 32 j = nI (z_y0 j)) ∧ mm_same [30, 31, 32] M M') 81 [(0, .ref (E.1 6)), (1, .int (nI i))] [] (M3)
              refine jr_iload_n hg 1 rfl rfl dX6_begin_81 ?_
              refine jr_aload_n hg 0 rfl rfl dX6_begin_82 ?_
              refine gf_X6_18 hg (hI 6 (by decide)) dX6_begin_83 ?_
              refine jr_alen hg (t0 := 0) (hI 32 (by decide)) (ac_32 _ _) rfl rfl dX6_begin_86 ?_
              refine jr_icmp_geN (tgt := 115) hg dX6_begin_87 (by decide) (by omega) (by omega) (fun h => by omega) (fun h87 => ?_)
              refine jr_aload_n hg 0 rfl rfl dX6_begin_90 ?_
              refine gf_X6_18 hg (hI 6 (by decide)) dX6_begin_91 ?_
              refine jr_iload_n hg 1 rfl rfl dX6_begin_94 ?_
              refine jr_iload_n hg 1 rfl rfl dX6_begin_95 ?_
              refine jr_if_neN (tgt := 105) hg dX6_begin_96 (by decide) (by omega) (fun h96 => ?_) (fun h96 => ?_)
              · refine jr_sipush hg (nI 333) dX6_begin_105 (by decide) ?_
                refine jr_iastN hg (n := 3) (by omega) (by decide) (hI 32 (by decide)) (ac_32) dX6_begin_108 ?_
                refine jr_iinc hg 1 rfl (nI (_ + 1)) (nI_1 _) dX6_begin_109 (by decide) rfl ?_
                refine jr_goto (tgt := 81) hg dX6_begin_112 (by decide) ?_
                exact jr_lv [1, 0] rfl (ih3 (mm_si M3 32 (upd (M3.1 32) i (nI 333))) (fun j hj => by show upd (M3.1 32) i (nI 333) j = _; by_cases e : j = i; rw [e, upd_s, z_y0, if_neg (by omega)]; rw [upd_n e]; exact hrow j (by omega)) hro hrt (hs.si (by decide)))
              · refine jr_sipush hg (nI 334) dX6_begin_99 (by decide) ?_
                refine jr_goto (tgt := 108) hg dX6_begin_102 (by decide) ?_
                refine jr_iastN hg (n := 3) (by omega) (by decide) (hI 32 (by decide)) (ac_32) dX6_begin_108 ?_
                refine jr_iinc hg 1 rfl (nI (_ + 1)) (nI_1 _) dX6_begin_109 (by decide) rfl ?_
                refine jr_goto (tgt := 81) hg dX6_begin_112 (by decide) ?_
                exact jr_lv [1, 0] rfl (ih3 (mm_si M3 32 (upd (M3.1 32) i (nI 334))) (fun j hj => by show upd (M3.1 32) i (nI 334) j = _; by_cases e : j = i; rw [e, upd_s, z_y0, if_pos h96]; rw [upd_n e]; exact hrow j (by omega)) hro hrt (hs.si (by decide)))
          exact jr_lv [1, 0] rfl (lp81 0 (by omega) M2 (fun j hj => by omega) hro hrow hs)
        · intro i hi ih2 M2 hrow hro hs
          show mm_J g E mX6_begin (fun v M' => v = none ∧ (∀ j, j < 72 → M'.1 30 j = nI (z_o0 j)) ∧ (∀ j, j < 96 → M'.1 31 j = nI (z_t0 j)) ∧ (∀ j, j < 3 → M'.1 32 j = nI (z_y0 j)) ∧ mm_same [30, 31, 32] M M') 40 [(0, .ref (E.1 6)), (1, .int (nI i))] [] (M2)
          refine jr_iload_n hg 1 rfl rfl dX6_begin_40 ?_
          refine jr_aload_n hg 0 rfl rfl dX6_begin_41 ?_
          refine gf_X6_15 hg (hI 6 (by decide)) dX6_begin_42 ?_
          refine jr_alen hg (t0 := 0) (hI 31 (by decide)) (ac_31 _ _) rfl rfl dX6_begin_45 ?_
          refine jr_icmp_geN (tgt := 79) hg dX6_begin_46 (by decide) (by omega) (by omega) (fun h => by omega) (fun h46 => ?_)
          refine jr_aload_n hg 0 rfl rfl dX6_begin_49 ?_
          refine gf_X6_15 hg (hI 6 (by decide)) dX6_begin_50 ?_
          refine jr_iload_n hg 1 rfl rfl dX6_begin_53 ?_
          refine jr_iload_n hg 1 rfl rfl dX6_begin_54 ?_
          refine jr_iconst hg (nI 4) dX6_begin_55 (by decide) ?_
          refine jr_idivN hg dX6_begin_56 (by omega) (by omega) (by omega) ?_
          refine jr_iconst hg (nI 3) dX6_begin_57 (by decide) ?_
          refine jr_iremN hg dX6_begin_58 (by omega) (by omega) (by omega) ?_
          refine jr_iload_n hg 1 rfl rfl dX6_begin_59 ?_
          refine jr_iconst hg (nI 4) dX6_begin_60 (by decide) ?_
          refine jr_iremN hg dX6_begin_61 (by omega) (by omega) (by omega) ?_
          refine jr_icmp_neN (tgt := 70) hg dX6_begin_62 (by decide) (by omega) (by omega) (fun h62 => ?_) (fun h62 => ?_)
          · refine jr_bipush hg (nI 10) dX6_begin_70 (by decide) ?_
            refine jr_iastN hg (n := 96) (by omega) (by decide) (hI 31 (by decide)) (ac_31) dX6_begin_72 ?_
            refine jr_iinc hg 1 rfl (nI (_ + 1)) (nI_1 _) dX6_begin_73 (by decide) rfl ?_
            refine jr_goto (tgt := 40) hg dX6_begin_76 (by decide) ?_
            exact jr_lv [1, 0] rfl (ih2 (mm_si M2 31 (upd (M2.1 31) i (nI 10))) (fun j hj => by show upd (M2.1 31) i (nI 10) j = _; by_cases e : j = i; rw [e, upd_s, z_t0, if_neg h62]; rw [upd_n e]; exact hrow j (by omega)) hro (hs.si (by decide)))
          · refine jr_bipush hg (nI 70) dX6_begin_65 (by decide) ?_
            refine jr_goto (tgt := 72) hg dX6_begin_67 (by decide) ?_
            refine jr_iastN hg (n := 96) (by omega) (by decide) (hI 31 (by decide)) (ac_31) dX6_begin_72 ?_
            refine jr_iinc hg 1 rfl (nI (_ + 1)) (nI_1 _) dX6_begin_73 (by decide) rfl ?_
            refine jr_goto (tgt := 40) hg dX6_begin_76 (by decide) ?_
            exact jr_lv [1, 0] rfl (ih2 (mm_si M2 31 (upd (M2.1 31) i (nI 70))) (fun j hj => by show upd (M2.1 31) i (nI 70) j = _; by_cases e : j = i; rw [e, upd_s, z_t0, if_pos h62]; rw [upd_n e]; exact hrow j (by omega)) hro (hs.si (by decide)))
      exact jr_lv [1, 0] rfl (lp40 0 (by omega) M1 (fun j hj => by omega) hrow hs)
    · intro i hi ih M1 hrow hs
      show mm_J g E mX6_begin (fun v M' => v = none ∧ (∀ j, j < 72 → M'.1 30 j = nI (z_o0 j)) ∧ (∀ j, j < 96 → M'.1 31 j = nI (z_t0 j)) ∧ (∀ j, j < 3 → M'.1 32 j = nI (z_y0 j)) ∧ mm_same [30, 31, 32] M M') 2 [(0, .ref (E.1 6)), (1, .int (nI i))] [] (M1)
      refine jr_iload_n hg 1 rfl rfl dX6_begin_2 ?_
      refine jr_aload_n hg 0 rfl rfl dX6_begin_3 ?_
      refine gf_X6_9 hg (hI 6 (by decide)) dX6_begin_4 ?_
      refine jr_alen hg (t0 := 0) (hI 30 (by decide)) (ac_30 _ _) rfl rfl dX6_begin_7 ?_
      refine jr_icmp_geN (tgt := 38) hg dX6_begin_8 (by decide) (by omega) (by omega) (fun h => by omega) (fun h8 => ?_)
      refine jr_aload_n hg 0 rfl rfl dX6_begin_11 ?_
      refine gf_X6_9 hg (hI 6 (by decide)) dX6_begin_12 ?_
      refine jr_iload_n hg 1 rfl rfl dX6_begin_15 ?_
      refine jr_iload_n hg 1 rfl rfl dX6_begin_16 ?_
      refine jr_iconst hg (nI 3) dX6_begin_17 (by decide) ?_
      refine jr_iremN hg dX6_begin_18 (by omega) (by omega) (by omega) ?_
      refine jr_if_neN (tgt := 28) hg dX6_begin_19 (by decide) (by omega) (fun h19 => ?_) (fun h19 => ?_)
      · refine jr_sipush hg (nI 333) dX6_begin_28 (by decide) ?_
        refine jr_iastN hg (n := 72) (by omega) (by decide) (hI 30 (by decide)) (ac_30) dX6_begin_31 ?_
        refine jr_iinc hg 1 rfl (nI (_ + 1)) (nI_1 _) dX6_begin_32 (by decide) rfl ?_
        refine jr_goto (tgt := 2) hg dX6_begin_35 (by decide) ?_
        exact jr_lv [1, 0] rfl (ih (mm_si M1 30 (upd (M1.1 30) i (nI 333))) (fun j hj => by show upd (M1.1 30) i (nI 333) j = _; by_cases e : j = i; rw [e, upd_s, z_o0, if_neg (by omega)]; rw [upd_n e]; exact hrow j (by omega))  (hs.si (by decide)))
      · refine jr_sipush hg (nI 334) dX6_begin_22 (by decide) ?_
        refine jr_goto (tgt := 31) hg dX6_begin_25 (by decide) ?_
        refine jr_iastN hg (n := 72) (by omega) (by decide) (hI 30 (by decide)) (ac_30) dX6_begin_31 ?_
        refine jr_iinc hg 1 rfl (nI (_ + 1)) (nI_1 _) dX6_begin_32 (by decide) rfl ?_
        refine jr_goto (tgt := 2) hg dX6_begin_35 (by decide) ?_
        exact jr_lv [1, 0] rfl (ih (mm_si M1 30 (upd (M1.1 30) i (nI 334))) (fun j hj => by show upd (M1.1 30) i (nI 334) j = _; by_cases e : j = i; rw [e, upd_s, z_o0, if_pos h19]; rw [upd_n e]; exact hrow j (by omega))  (hs.si (by decide)))
  exact jr_lv [1, 0] rfl (lp2 0 (by omega) M (fun j hj => by omega) mm_same.rf)

set_option maxRecDepth 100000 in
theorem c_keep30 {E : mm_E} (hI : mm_FX E) {M : mm_M} {o t y : Nat → Nat} {r : Nat} {b : Bool} (h : zX_r o t y r b M) {i v : Nat} (hi : i < 72) (hv : v < 2 ^ 31) (ho : o i < 2 ^ 31) : mm_Cal E mX6_keep [.ref (E.1 6), .ref (E.1 30), .int (nI i), .int (nI v)] M (fun q M' => q = none ∧ zX_r (zup o i v) t y r (b || o i != v) M' ∧ mm_same [6, 30] M M') := by
  refine jr_entry RX6 (by decide +kernel) (Nat.le_of_ble_eq_true rfl) (fun g hg => ?_)
  refine jr_lv (lv' := [(0, .ref (E.1 6)), (1, .ref (E.1 30)), (2, .int (nI i)), (3, .int (nI v))]) [0, 1, 2, 3] rfl ?_
  refine jr_iload_n hg 2 rfl rfl dX6_keep_0 ?_
  refine jr_if_ltN hg dX6_keep_1 (tgt := 26) (by decide) (by omega) ?_
  refine jr_iload_n hg 2 rfl rfl dX6_keep_4 ?_
  refine jr_aload_n hg 1 rfl rfl dX6_keep_5 ?_
  refine jr_alen hg (t0 := 0) (hI 30 (by decide)) (ac_30 _ _) rfl rfl dX6_keep_6 ?_
  refine jr_icmp_geN (tgt := 26) hg dX6_keep_7 (by decide) (by omega) (by omega) (fun h => by omega) (fun h7 => ?_)
  refine jr_aload_n hg 1 rfl rfl dX6_keep_10 ?_
  refine jr_iload_n hg 2 rfl rfl dX6_keep_11 ?_
  refine jr_ialdN hg (n := 72) (by omega) (by decide) (hI 30 (by decide)) (ac_30 _ _) dX6_keep_12 ?_
  refine jr_top (h.1 _ hi) ?_
  refine jr_iload_n hg 3 rfl rfl dX6_keep_13 ?_
  refine jr_icmp_eqN (tgt := 26) hg dX6_keep_14 (by decide) (by omega) (by omega) (fun h14 => ?_) (fun h14 => ?_)
  · exact jr_vret hg rfl dX6_keep_26 (⟨rfl, by rw [zup_id h14, zne_f h14]; exact h, mm_same.rf⟩)
  · refine jr_aload_n hg 1 rfl rfl dX6_keep_17 ?_
    refine jr_iload_n hg 2 rfl rfl dX6_keep_18 ?_
    refine jr_iload_n hg 3 rfl rfl dX6_keep_19 ?_
    refine jr_iastN hg (n := 72) (by omega) (by decide) (hI 30 (by decide)) (ac_30) dX6_keep_20 ?_
    refine jr_aload_n hg 0 rfl rfl dX6_keep_21 ?_
    refine jr_iconst hg (nI 1) dX6_keep_22 (by decide) ?_
    refine pf_X6_53 hg (by first | exact Or.inl rfl | exact Or.inr rfl | exact z01 _) (hI 6 (by decide)) dX6_keep_23 ?_
    exact jr_vret hg rfl dX6_keep_26 (⟨rfl, ⟨zrow_up h.1, h.2.1, h.2.2.1, by rw [zne_t h14]; rfl, h.2.2.2.2⟩, (mm_same.rf.si (by decide)).si (by decide)⟩)

theorem c_keep30m {E : mm_E} (hI : mm_FX E) {M : mm_M} {n o t y : Nat → Nat} {r : Nat} {b : Bool} {i j v : Nat} (h : zX_r (z_mix n o j) t y r (b || z_df o n j) M) (hi : j < 72) (e : i = j) (hv : v = n j) (hn : n j < 2 ^ 31) (ho : o j < 2 ^ 31) : mm_Cal E mX6_keep [.ref (E.1 6), .ref (E.1 30), .int (nI i), .int (nI v)] M (fun q0 M' => q0 = none ∧ zX_r (z_mix n o (j + 1)) t y r (b || z_df o n (j + 1)) M' ∧ mm_same [6, 30] M M') := by
  subst e; subst hv
  refine (c_keep30 hI h hi hn (by rw [z_mix_at]; exact ho)).to (fun q0 M' k => ⟨k.1, ?_, k.2.2⟩)
  have k2 := k.2.1
  rw [z_mix_s, z_df_s] at k2
  exact k2

set_option maxRecDepth 100000 in
theorem c_keep31 {E : mm_E} (hI : mm_FX E) {M : mm_M} {o t y : Nat → Nat} {r : Nat} {b : Bool} (h : zX_r o t y r b M) {i v : Nat} (hi : i < 96) (hv : v < 2 ^ 31) (ho : t i < 2 ^ 31) : mm_Cal E mX6_keep [.ref (E.1 6), .ref (E.1 31), .int (nI i), .int (nI v)] M (fun q M' => q = none ∧ zX_r o (zup t i v) y r (b || t i != v) M' ∧ mm_same [6, 31] M M') := by
  refine jr_entry RX6 (by decide +kernel) (Nat.le_of_ble_eq_true rfl) (fun g hg => ?_)
  refine jr_lv (lv' := [(0, .ref (E.1 6)), (1, .ref (E.1 31)), (2, .int (nI i)), (3, .int (nI v))]) [0, 1, 2, 3] rfl ?_
  refine jr_iload_n hg 2 rfl rfl dX6_keep_0 ?_
  refine jr_if_ltN hg dX6_keep_1 (tgt := 26) (by decide) (by omega) ?_
  refine jr_iload_n hg 2 rfl rfl dX6_keep_4 ?_
  refine jr_aload_n hg 1 rfl rfl dX6_keep_5 ?_
  refine jr_alen hg (t0 := 0) (hI 31 (by decide)) (ac_31 _ _) rfl rfl dX6_keep_6 ?_
  refine jr_icmp_geN (tgt := 26) hg dX6_keep_7 (by decide) (by omega) (by omega) (fun h => by omega) (fun h7 => ?_)
  refine jr_aload_n hg 1 rfl rfl dX6_keep_10 ?_
  refine jr_iload_n hg 2 rfl rfl dX6_keep_11 ?_
  refine jr_ialdN hg (n := 96) (by omega) (by decide) (hI 31 (by decide)) (ac_31 _ _) dX6_keep_12 ?_
  refine jr_top (h.2.1 _ hi) ?_
  refine jr_iload_n hg 3 rfl rfl dX6_keep_13 ?_
  refine jr_icmp_eqN (tgt := 26) hg dX6_keep_14 (by decide) (by omega) (by omega) (fun h14 => ?_) (fun h14 => ?_)
  · exact jr_vret hg rfl dX6_keep_26 (⟨rfl, by rw [zup_id h14, zne_f h14]; exact h, mm_same.rf⟩)
  · refine jr_aload_n hg 1 rfl rfl dX6_keep_17 ?_
    refine jr_iload_n hg 2 rfl rfl dX6_keep_18 ?_
    refine jr_iload_n hg 3 rfl rfl dX6_keep_19 ?_
    refine jr_iastN hg (n := 96) (by omega) (by decide) (hI 31 (by decide)) (ac_31) dX6_keep_20 ?_
    refine jr_aload_n hg 0 rfl rfl dX6_keep_21 ?_
    refine jr_iconst hg (nI 1) dX6_keep_22 (by decide) ?_
    refine pf_X6_53 hg (by first | exact Or.inl rfl | exact Or.inr rfl | exact z01 _) (hI 6 (by decide)) dX6_keep_23 ?_
    exact jr_vret hg rfl dX6_keep_26 (⟨rfl, ⟨h.1, zrow_up h.2.1, h.2.2.1, by rw [zne_t h14]; rfl, h.2.2.2.2⟩, (mm_same.rf.si (by decide)).si (by decide)⟩)

theorem c_keep31m {E : mm_E} (hI : mm_FX E) {M : mm_M} {n o q y : Nat → Nat} {r : Nat} {b : Bool} {i j v : Nat} (h : zX_r q (z_mix n o j) y r (b || z_df o n j) M) (hi : j < 96) (e : i = j) (hv : v = n j) (hn : n j < 2 ^ 31) (ho : o j < 2 ^ 31) : mm_Cal E mX6_keep [.ref (E.1 6), .ref (E.1 31), .int (nI i), .int (nI v)] M (fun q0 M' => q0 = none ∧ zX_r q (z_mix n o (j + 1)) y r (b || z_df o n (j + 1)) M' ∧ mm_same [6, 31] M M') := by
  subst e; subst hv
  refine (c_keep31 hI h hi hn (by rw [z_mix_at]; exact ho)).to (fun q0 M' k => ⟨k.1, ?_, k.2.2⟩)
  have k2 := k.2.1
  rw [z_mix_s, z_df_s] at k2
  exact k2

set_option maxRecDepth 100000 in
theorem c_keep32 {E : mm_E} (hI : mm_FX E) {M : mm_M} {o t y : Nat → Nat} {r : Nat} {b : Bool} (h : zX_r o t y r b M) {i v : Nat} (hi : i < 3) (hv : v < 2 ^ 31) (ho : y i < 2 ^ 31) : mm_Cal E mX6_keep [.ref (E.1 6), .ref (E.1 32), .int (nI i), .int (nI v)] M (fun q M' => q = none ∧ zX_r o t (zup y i v) r (b || y i != v) M' ∧ mm_same [6, 32] M M') := by
  refine jr_entry RX6 (by decide +kernel) (Nat.le_of_ble_eq_true rfl) (fun g hg => ?_)
  refine jr_lv (lv' := [(0, .ref (E.1 6)), (1, .ref (E.1 32)), (2, .int (nI i)), (3, .int (nI v))]) [0, 1, 2, 3] rfl ?_
  refine jr_iload_n hg 2 rfl rfl dX6_keep_0 ?_
  refine jr_if_ltN hg dX6_keep_1 (tgt := 26) (by decide) (by omega) ?_
  refine jr_iload_n hg 2 rfl rfl dX6_keep_4 ?_
  refine jr_aload_n hg 1 rfl rfl dX6_keep_5 ?_
  refine jr_alen hg (t0 := 0) (hI 32 (by decide)) (ac_32 _ _) rfl rfl dX6_keep_6 ?_
  refine jr_icmp_geN (tgt := 26) hg dX6_keep_7 (by decide) (by omega) (by omega) (fun h => by omega) (fun h7 => ?_)
  refine jr_aload_n hg 1 rfl rfl dX6_keep_10 ?_
  refine jr_iload_n hg 2 rfl rfl dX6_keep_11 ?_
  refine jr_ialdN hg (n := 3) (by omega) (by decide) (hI 32 (by decide)) (ac_32 _ _) dX6_keep_12 ?_
  refine jr_top (h.2.2.1 _ hi) ?_
  refine jr_iload_n hg 3 rfl rfl dX6_keep_13 ?_
  refine jr_icmp_eqN (tgt := 26) hg dX6_keep_14 (by decide) (by omega) (by omega) (fun h14 => ?_) (fun h14 => ?_)
  · exact jr_vret hg rfl dX6_keep_26 (⟨rfl, by rw [zup_id h14, zne_f h14]; exact h, mm_same.rf⟩)
  · refine jr_aload_n hg 1 rfl rfl dX6_keep_17 ?_
    refine jr_iload_n hg 2 rfl rfl dX6_keep_18 ?_
    refine jr_iload_n hg 3 rfl rfl dX6_keep_19 ?_
    refine jr_iastN hg (n := 3) (by omega) (by decide) (hI 32 (by decide)) (ac_32) dX6_keep_20 ?_
    refine jr_aload_n hg 0 rfl rfl dX6_keep_21 ?_
    refine jr_iconst hg (nI 1) dX6_keep_22 (by decide) ?_
    refine pf_X6_53 hg (by first | exact Or.inl rfl | exact Or.inr rfl | exact z01 _) (hI 6 (by decide)) dX6_keep_23 ?_
    exact jr_vret hg rfl dX6_keep_26 (⟨rfl, ⟨h.1, h.2.1, zrow_up h.2.2.1, by rw [zne_t h14]; rfl, h.2.2.2.2⟩, (mm_same.rf.si (by decide)).si (by decide)⟩)

theorem c_keep32m {E : mm_E} (hI : mm_FX E) {M : mm_M} {n o q t : Nat → Nat} {r : Nat} {b : Bool} {i j v : Nat} (h : zX_r q t (z_mix n o j) r (b || z_df o n j) M) (hi : j < 3) (e : i = j) (hv : v = n j) (hn : n j < 2 ^ 31) (ho : o j < 2 ^ 31) : mm_Cal E mX6_keep [.ref (E.1 6), .ref (E.1 32), .int (nI i), .int (nI v)] M (fun q0 M' => q0 = none ∧ zX_r q t (z_mix n o (j + 1)) r (b || z_df o n (j + 1)) M' ∧ mm_same [6, 32] M M') := by
  subst e; subst hv
  refine (c_keep32 hI h hi hn (by rw [z_mix_at]; exact ho)).to (fun q0 M' k => ⟨k.1, ?_, k.2.2⟩)
  have k2 := k.2.1
  rw [z_mix_s, z_df_s] at k2
  exact k2

/-- the chances after n looks -/
def zX_c (s : zS) (n : Nat) (M : mm_M) : Prop := ∀ q k, q < 24 → k < 3 → M.2 33 (q * 3 + k) = lN (z_ch s q k n)
theorem zX_c_c {s : zS} {n : Nat} {M M1 : mm_M} (h : M1.2 33 = M.2 33) (q : zX_c s n M) : zX_c s n M1 := by
  intro a b ha hb; rw [h]; exact q a b ha hb
theorem z_o1_a {s : zS} {p k i : Nat} (hp : p < s 0 0) (hk : k < 3) (e : i = 3 * p + k) : z_o1 s i = z_od s p k := by rw [e]; exact z_o1_at hp hk
theorem z_o1_k {s : zS} {p k i : Nat} (hp : p < s 0 0) (hk : k < 3) (e : i = 3 * p + k) (h4 : s 4 p = 1) : z_o1 s i = if k = s 1 p then 1000 else 0 := by rw [z_o1_a hp hk e, z_od, if_pos h4]
theorem z_o1_n {s : zS} {p k i b : Nat} (hp : p < s 0 0) (hk : k < 3) (e : i = 3 * p + k) (h4 : s 4 p ≠ 1) (hb : z_b3 (z_sr s p) = b) : z_o1 s i = z_sr s p k + (if k = b then 1000 - z_sr s p 0 - z_sr s p 1 - z_sr s p 2 else 0) := by rw [z_o1_a hp hk e, z_od, if_neg h4, hb]
theorem z_sr_le {s : zS} {p k : Nat} (h : 0 < z_cs s p) (hk : k < 3) : z_sr s p k ≤ 1000 := by
  have := z_sr3 h
  rcases (show k = 0 ∨ k = 1 ∨ k = 2 by omega) with r | r | r <;> subst r <;> omega

set_option maxRecDepth 100000 in
theorem c_X6_chanceOf {E : mm_E} (hI : mm_FX E) {M : mm_M} {p k x : Nat} (hp : p < 24) (hk : k < 3) (hx : M.2 33 (p * 3 + k) = lN x) : mm_Cal E mX6_chanceOf [.ref (E.1 6), .int (nI p), .int (nI k)] M (ret1 (.long (lN x)) M) := by
  refine jr_entry RX6 (by decide +kernel) (Nat.le_of_ble_eq_true rfl) (fun g hg => ?_)
  refine jr_lv (lv' := [(0, .ref (E.1 6)), (1, .int (nI p)), (2, .int (nI k))]) [0, 1, 2] rfl ?_
  refine jr_iload_n hg 1 rfl rfl dX6_chanceOf_0 ?_
  refine jr_iload_n hg 2 rfl rfl dX6_chanceOf_1 ?_
  refine jr_cS2v hg lk_X6_35 (by decide) (by decide) (Nat.le_of_ble_eq_true rfl) dX6_chanceOf_2 (c_X6_isOddsCell hI hp hk) ?_
  refine jr_if_eqN (tgt := 21) hg dX6_chanceOf_5 (by decide) (by omega) (fun h => by omega) (fun h5 => ?_)
  refine jr_aload_n hg 0 rfl rfl dX6_chanceOf_8 ?_
  refine gf_X6_21 hg (hI 6 (by decide)) dX6_chanceOf_9 ?_
  refine jr_iload_n hg 1 rfl rfl dX6_chanceOf_12 ?_
  refine jr_iconst hg (nI 3) dX6_chanceOf_13 (by decide) ?_
  refine jr_imulN hg dX6_chanceOf_14 ?_
  refine jr_iload_n hg 2 rfl rfl dX6_chanceOf_15 ?_
  refine jr_iaddN hg dX6_chanceOf_16 ?_
  refine jr_laldN hg (n := 72) (by omega) (by decide) (hI 33 (by decide)) (ac_33 _ _) dX6_chanceOf_17 ?_
  refine jr_topl (hx) ?_
  refine jr_goto (tgt := 22) hg dX6_chanceOf_18 (by decide) ?_
  exact jr_lret hg rfl dX6_chanceOf_22 (⟨rfl, rfl⟩)

set_option maxRecDepth 100000 in
theorem c_X6_shareOf {E : mm_E} (hI : mm_FX E) {M : mm_M} {s : zS} (hk : zW_k s) (ho : zW_o s) (h8 : s 0 1 ≤ 8) (hc : zX_c s (s 0 2) M) {p k : Nat} (hp : p < 24) (hk3 : k < 3) : mm_Cal E mX6_shareOf [.ref (E.1 6), .int (nI p), .int (nI k)] M (ret1 (.int (nI (z_sr s p k))) M) := by
  have a0 := z_ch_b hk ho (p := p) (k := 0) (by decide) h8
  have a1 := z_ch_b hk ho (p := p) (k := 1) (by decide) h8
  have a2 := z_ch_b hk ho (p := p) (k := 2) (by decide) h8
  have a3 := z_ch_b hk ho (p := p) hk3 h8
  have hcs : 0 < z_ch s p 0 (s 0 2) + z_ch s p 1 (s 0 2) + z_ch s p 2 (s 0 2) := by omega
  have hcs2 : z_ch s p 0 (s 0 2) + z_ch s p 1 (s 0 2) + z_ch s p 2 (s 0 2) < 2 ^ 63 := by omega
  refine jr_entry RX6 (by decide +kernel) (Nat.le_of_ble_eq_true rfl) (fun g hg => ?_)
  refine jr_lv (lv' := [(0, .ref (E.1 6)), (1, .int (nI p)), (2, .int (nI k))]) [0, 1, 2] rfl ?_
  refine jr_aload_n hg 0 rfl rfl dX6_shareOf_0 ?_
  refine jr_iload_n hg 1 rfl rfl dX6_shareOf_1 ?_
  refine jr_iconst hg (nI 0) dX6_shareOf_2 (by decide) ?_
  refine jr_cV2v hg lk_X6_122 (hI 6 (by decide)) rfl rfl (by decide) (by decide) (Nat.le_of_ble_eq_true rfl) dX6_shareOf_3 (c_X6_chanceOf hI hp (by decide) (hc p 0 hp (by decide))) ?_
  refine jr_aload_n hg 0 rfl rfl dX6_shareOf_6 ?_
  refine jr_iload_n hg 1 rfl rfl dX6_shareOf_7 ?_
  refine jr_iconst hg (nI 1) dX6_shareOf_8 (by decide) ?_
  refine jr_cV2v hg lk_X6_122 (hI 6 (by decide)) rfl rfl (by decide) (by decide) (Nat.le_of_ble_eq_true rfl) dX6_shareOf_9 (c_X6_chanceOf hI hp (by decide) (hc p 1 hp (by decide))) ?_
  refine jr_ladd hg dX6_shareOf_12 ?_
  refine jr_topl (lN_add _ _) ?_
  refine jr_aload_n hg 0 rfl rfl dX6_shareOf_13 ?_
  refine jr_iload_n hg 1 rfl rfl dX6_shareOf_14 ?_
  refine jr_iconst hg (nI 2) dX6_shareOf_15 (by decide) ?_
  refine jr_cV2v hg lk_X6_122 (hI 6 (by decide)) rfl rfl (by decide) (by decide) (Nat.le_of_ble_eq_true rfl) dX6_shareOf_16 (c_X6_chanceOf hI hp (by decide) (hc p 2 hp (by decide))) ?_
  refine jr_ladd hg dX6_shareOf_19 ?_
  refine jr_topl (lN_add _ _) ?_
  refine jr_lstore_n hg dX6_shareOf_20 rfl (by decide) rfl ?_
  refine jr_lload_n hg 0 rfl rfl dX6_shareOf_21 ?_
  refine jr_lconst hg (lN 0) dX6_shareOf_22 (by decide) ?_
  refine jr_lcmp hg dX6_shareOf_23 ?_
  refine jr_if_le (tgt := 43) hg dX6_shareOf_24 (by decide) (fun h => absurd ((pk_lLE hcs2 (show 0 < 2 ^ 63 by decide)).mp ((lg_cmp_le _ _).mp h)) (by omega)) (fun h24 => ?_)
  refine jr_aload_n hg 1 rfl rfl dX6_shareOf_27 ?_
  refine jr_iload_n hg 2 rfl rfl dX6_shareOf_28 ?_
  refine jr_iload_n hg 3 rfl rfl dX6_shareOf_29 ?_
  refine jr_cV2v hg lk_X6_122 (hI 6 (by decide)) rfl rfl (by decide) (by decide) (Nat.le_of_ble_eq_true rfl) dX6_shareOf_30 (c_X6_chanceOf hI hp hk3 (hc p k hp hk3)) ?_
  refine jr_ldc2 hg wm_34_18 dX6_shareOf_33 ?_
  refine jr_topl (show (1000 : Int64) = lN 1000 by decide) ?_
  refine jr_lmul hg dX6_shareOf_36 ?_
  refine jr_topl (lN_mul _ _) ?_
  refine jr_lload_n hg 0 rfl rfl dX6_shareOf_37 ?_
  refine jr_ldiv hg dX6_shareOf_38 (lN_ne0 hcs hcs2) ?_
  refine jr_topl (pk_lDiv (by omega) hcs hcs2) ?_
  refine jr_l2i hg (nI _) dX6_shareOf_39 (lN_i _) ?_
  refine jr_goto (tgt := 44) hg dX6_shareOf_40 (by decide) ?_
  exact jr_iret hg rfl dX6_shareOf_44 (⟨rfl, rfl⟩)

set_option maxRecDepth 100000 in
theorem c_X6_keepShares {E : mm_E} (hI : mm_FX E) {M : mm_M} {s : zS} (hp24 : s 0 0 ≤ 24) (hk : zW_k s) (ho : zW_o s) (h8 : s 0 1 ≤ 8) {t y : Nat → Nat} {r p : Nat} {b : Bool} (hp : p < s 0 0) (hx : zX_r (z_mix (z_o1 s) (s 12) (3 * p)) t y r (b || z_df (s 12) (z_o1 s) (3 * p)) M) (hc : zX_c s (s 0 2) M) (hkn : s 4 p ≠ 1) : mm_Cal E mX6_keepShares [.ref (E.1 6), .int (nI p)] M (fun q M' => q = none ∧ zX_r (z_mix (z_o1 s) (s 12) (3 * p + 3)) t y r (b || z_df (s 12) (z_o1 s) (3 * p + 3)) M' ∧ mm_same [6, 30] M M') := by
  have hcp := (z_cs_pos hk ho h8 p).1
  have h3 := z_sr3 hcp
  have hl : ∀ j, j < 72 → z_o1 s j < 2 ^ 31 := fun j hj => Nat.lt_of_le_of_lt (z_o1_le hk ho h8 j hj) (by decide)
  have hq : ∀ j, j < 72 → s 12 j < 2 ^ 31 := fun j hj => Nat.lt_of_le_of_lt (ho.1 j hj) (by decide)
  refine jr_entry RX6 (by decide +kernel) (Nat.le_of_ble_eq_true rfl) (fun g hg => ?_)
  refine jr_lv (lv' := [(0, .ref (E.1 6)), (1, .int (nI p))]) [0, 1] rfl ?_
  refine jr_aload_n hg 0 rfl rfl dX6_keepShares_0 ?_
  refine jr_iload_n hg 1 rfl rfl dX6_keepShares_1 ?_
  refine jr_iconst hg (nI 0) dX6_keepShares_2 (by decide) ?_
  refine jr_cV2v hg lk_X6_119 (hI 6 (by decide)) rfl rfl (by decide) (by decide) (Nat.le_of_ble_eq_true rfl) dX6_keepShares_3 (c_X6_shareOf hI hk ho h8 hc (by omega) (by decide)) ?_
  refine jr_istore_n hg dX6_keepShares_6 rfl (by decide) rfl ?_
  refine jr_aload_n hg 1 rfl rfl dX6_keepShares_7 ?_
  refine jr_iload_n hg 2 rfl rfl dX6_keepShares_8 ?_
  refine jr_iconst hg (nI 1) dX6_keepShares_9 (by decide) ?_
  refine jr_cV2v hg lk_X6_119 (hI 6 (by decide)) rfl rfl (by decide) (by decide) (Nat.le_of_ble_eq_true rfl) dX6_keepShares_10 (c_X6_shareOf hI hk ho h8 hc (by omega) (by decide)) ?_
  refine jr_istore_n hg dX6_keepShares_13 rfl (by decide) rfl ?_
  refine jr_aload_n hg 2 rfl rfl dX6_keepShares_14 ?_
  refine jr_iload_n hg 3 rfl rfl dX6_keepShares_15 ?_
  refine jr_iconst hg (nI 2) dX6_keepShares_16 (by decide) ?_
  refine jr_cV2v hg lk_X6_119 (hI 6 (by decide)) rfl rfl (by decide) (by decide) (Nat.le_of_ble_eq_true rfl) dX6_keepShares_17 (c_X6_shareOf hI hk ho h8 hc (by omega) (by decide)) ?_
  refine jr_istore hg dX6_keepShares_20 (by decide) rfl ?_
  refine jr_sipush hg (nI 1000) dX6_keepShares_22 (by decide) ?_
  refine jr_iload_n hg 2 rfl rfl dX6_keepShares_25 ?_
  refine jr_isubN hg dX6_keepShares_26 (by omega) ?_
  refine jr_iload_n hg 1 rfl rfl dX6_keepShares_27 ?_
  refine jr_isubN hg dX6_keepShares_28 (by omega) ?_
  refine jr_iload hg 0 rfl dX6_keepShares_29 ?_
  refine jr_isubN hg dX6_keepShares_31 (by omega) ?_
  refine jr_istore hg dX6_keepShares_32 (by decide) rfl ?_
  refine jr_iload_n hg 3 rfl rfl dX6_keepShares_34 ?_
  refine jr_iload_n hg 2 rfl rfl dX6_keepShares_35 ?_
  refine jr_icmp_ltN (tgt := 53) hg dX6_keepShares_36 (by decide) (by omega) (by omega) (fun h36 => ?_) (fun h36 => ?_)
  · refine jr_iload_n hg 2 rfl rfl dX6_keepShares_53 ?_
    refine jr_iload hg 1 rfl dX6_keepShares_54 ?_
    refine jr_icmp_ltN (tgt := 67) hg dX6_keepShares_56 (by decide) (by omega) (by omega) (fun h56 => ?_) (fun h56 => ?_)
    · refine jr_iload hg 1 rfl dX6_keepShares_67 ?_
      refine jr_iload hg 0 rfl dX6_keepShares_69 ?_
      refine jr_iaddN hg dX6_keepShares_71 ?_
      refine jr_istore hg dX6_keepShares_72 (by decide) rfl ?_
      have hb3 : z_b3 (z_sr s p) = 2 := by rw [z_b3, if_neg (by omega), if_neg (by omega)]
      have hv0 := z_o1_n hp (k := 0) (by decide) rfl hkn hb3
      have hv1 := z_o1_n hp (k := 1) (by decide) rfl hkn hb3
      have hv2 := z_o1_n hp (k := 2) (by decide) rfl hkn hb3
      refine jr_aload_n hg 4 rfl rfl dX6_keepShares_74 ?_
      refine jr_aload_n hg 4 rfl rfl dX6_keepShares_75 ?_
      refine gf_X6_9 hg (hI 6 (by decide)) dX6_keepShares_76 ?_
      refine jr_iload_n hg 5 rfl rfl dX6_keepShares_79 ?_
      refine jr_iconst hg (nI 3) dX6_keepShares_80 (by decide) ?_
      refine jr_imulN hg dX6_keepShares_81 ?_
      refine jr_iconst hg (nI 0) dX6_keepShares_82 (by decide) ?_
      refine jr_iaddN hg dX6_keepShares_83 ?_
      refine jr_iload_n hg 3 rfl rfl dX6_keepShares_84 ?_
      refine jr_cV3p hg lk_X6_115 (hI 6 (by decide)) rfl rfl (by decide) (by decide) (Nat.le_of_ble_eq_true rfl) dX6_keepShares_85 (c_keep30m hI (j := 3 * p + 0) hx (by omega) (by omega) (hv0.symm) (hl _ (by omega)) (hq _ (by omega))) (fun r M' h => ?_)
      obtain ⟨rfl, x0, f0⟩ := h
      refine jr_st (show _ = [] from rfl) ?_
      refine jr_aload_n hg 4 rfl rfl dX6_keepShares_88 ?_
      refine jr_aload_n hg 4 rfl rfl dX6_keepShares_89 ?_
      refine gf_X6_9 hg (hI 6 (by decide)) dX6_keepShares_90 ?_
      refine jr_iload_n hg 5 rfl rfl dX6_keepShares_93 ?_
      refine jr_iconst hg (nI 3) dX6_keepShares_94 (by decide) ?_
      refine jr_imulN hg dX6_keepShares_95 ?_
      refine jr_iconst hg (nI 1) dX6_keepShares_96 (by decide) ?_
      refine jr_iaddN hg dX6_keepShares_97 ?_
      refine jr_iload_n hg 2 rfl rfl dX6_keepShares_98 ?_
      refine jr_cV3p hg lk_X6_115 (hI 6 (by decide)) rfl rfl (by decide) (by decide) (Nat.le_of_ble_eq_true rfl) dX6_keepShares_99 (c_keep30m hI (j := 3 * p + 1) x0 (by omega) (by omega) (hv1.symm) (hl _ (by omega)) (hq _ (by omega))) (fun r M' h => ?_)
      obtain ⟨rfl, x1, f1⟩ := h
      refine jr_st (show _ = [] from rfl) ?_
      refine jr_aload_n hg 4 rfl rfl dX6_keepShares_102 ?_
      refine jr_aload_n hg 4 rfl rfl dX6_keepShares_103 ?_
      refine gf_X6_9 hg (hI 6 (by decide)) dX6_keepShares_104 ?_
      refine jr_iload_n hg 5 rfl rfl dX6_keepShares_107 ?_
      refine jr_iconst hg (nI 3) dX6_keepShares_108 (by decide) ?_
      refine jr_imulN hg dX6_keepShares_109 ?_
      refine jr_iconst hg (nI 2) dX6_keepShares_110 (by decide) ?_
      refine jr_iaddN hg dX6_keepShares_111 ?_
      refine jr_iload hg 0 rfl dX6_keepShares_112 ?_
      refine jr_cV3p hg lk_X6_115 (hI 6 (by decide)) rfl rfl (by decide) (by decide) (Nat.le_of_ble_eq_true rfl) dX6_keepShares_114 (c_keep30m hI (j := 3 * p + 2) x1 (by omega) (by omega) (hv2.symm) (hl _ (by omega)) (hq _ (by omega))) (fun r M' h => ?_)
      obtain ⟨rfl, x2, f2⟩ := h
      refine jr_st (show _ = [] from rfl) ?_
      exact jr_vret hg rfl dX6_keepShares_117 (⟨rfl, x2, f0.tr (f1.tr f2)⟩)
    · refine jr_iload_n hg 2 rfl rfl dX6_keepShares_59 ?_
      refine jr_iload hg 0 rfl dX6_keepShares_60 ?_
      refine jr_iaddN hg dX6_keepShares_62 ?_
      refine jr_istore_n hg dX6_keepShares_63 rfl (by decide) rfl ?_
      refine jr_goto (tgt := 74) hg dX6_keepShares_64 (by decide) ?_
      have hb3 : z_b3 (z_sr s p) = 1 := by rw [z_b3, if_neg (by omega), if_pos (by omega)]
      have hv0 := z_o1_n hp (k := 0) (by decide) rfl hkn hb3
      have hv1 := z_o1_n hp (k := 1) (by decide) rfl hkn hb3
      have hv2 := z_o1_n hp (k := 2) (by decide) rfl hkn hb3
      refine jr_aload_n hg 4 rfl rfl dX6_keepShares_74 ?_
      refine jr_aload_n hg 4 rfl rfl dX6_keepShares_75 ?_
      refine gf_X6_9 hg (hI 6 (by decide)) dX6_keepShares_76 ?_
      refine jr_iload_n hg 5 rfl rfl dX6_keepShares_79 ?_
      refine jr_iconst hg (nI 3) dX6_keepShares_80 (by decide) ?_
      refine jr_imulN hg dX6_keepShares_81 ?_
      refine jr_iconst hg (nI 0) dX6_keepShares_82 (by decide) ?_
      refine jr_iaddN hg dX6_keepShares_83 ?_
      refine jr_iload_n hg 3 rfl rfl dX6_keepShares_84 ?_
      refine jr_cV3p hg lk_X6_115 (hI 6 (by decide)) rfl rfl (by decide) (by decide) (Nat.le_of_ble_eq_true rfl) dX6_keepShares_85 (c_keep30m hI (j := 3 * p + 0) hx (by omega) (by omega) (hv0.symm) (hl _ (by omega)) (hq _ (by omega))) (fun r M' h => ?_)
      obtain ⟨rfl, x0, f0⟩ := h
      refine jr_st (show _ = [] from rfl) ?_
      refine jr_aload_n hg 4 rfl rfl dX6_keepShares_88 ?_
      refine jr_aload_n hg 4 rfl rfl dX6_keepShares_89 ?_
      refine gf_X6_9 hg (hI 6 (by decide)) dX6_keepShares_90 ?_
      refine jr_iload_n hg 5 rfl rfl dX6_keepShares_93 ?_
      refine jr_iconst hg (nI 3) dX6_keepShares_94 (by decide) ?_
      refine jr_imulN hg dX6_keepShares_95 ?_
      refine jr_iconst hg (nI 1) dX6_keepShares_96 (by decide) ?_
      refine jr_iaddN hg dX6_keepShares_97 ?_
      refine jr_iload_n hg 0 rfl rfl dX6_keepShares_98 ?_
      refine jr_cV3p hg lk_X6_115 (hI 6 (by decide)) rfl rfl (by decide) (by decide) (Nat.le_of_ble_eq_true rfl) dX6_keepShares_99 (c_keep30m hI (j := 3 * p + 1) x0 (by omega) (by omega) (hv1.symm) (hl _ (by omega)) (hq _ (by omega))) (fun r M' h => ?_)
      obtain ⟨rfl, x1, f1⟩ := h
      refine jr_st (show _ = [] from rfl) ?_
      refine jr_aload_n hg 4 rfl rfl dX6_keepShares_102 ?_
      refine jr_aload_n hg 4 rfl rfl dX6_keepShares_103 ?_
      refine gf_X6_9 hg (hI 6 (by decide)) dX6_keepShares_104 ?_
      refine jr_iload_n hg 5 rfl rfl dX6_keepShares_107 ?_
      refine jr_iconst hg (nI 3) dX6_keepShares_108 (by decide) ?_
      refine jr_imulN hg dX6_keepShares_109 ?_
      refine jr_iconst hg (nI 2) dX6_keepShares_110 (by decide) ?_
      refine jr_iaddN hg dX6_keepShares_111 ?_
      refine jr_iload hg 2 rfl dX6_keepShares_112 ?_
      refine jr_cV3p hg lk_X6_115 (hI 6 (by decide)) rfl rfl (by decide) (by decide) (Nat.le_of_ble_eq_true rfl) dX6_keepShares_114 (c_keep30m hI (j := 3 * p + 2) x1 (by omega) (by omega) (hv2.symm) (hl _ (by omega)) (hq _ (by omega))) (fun r M' h => ?_)
      obtain ⟨rfl, x2, f2⟩ := h
      refine jr_st (show _ = [] from rfl) ?_
      exact jr_vret hg rfl dX6_keepShares_117 (⟨rfl, x2, f0.tr (f1.tr f2)⟩)
  · refine jr_iload_n hg 3 rfl rfl dX6_keepShares_39 ?_
    refine jr_iload hg 1 rfl dX6_keepShares_40 ?_
    refine jr_icmp_ltN (tgt := 53) hg dX6_keepShares_42 (by decide) (by omega) (by omega) (fun h42 => ?_) (fun h42 => ?_)
    · refine jr_iload_n hg 2 rfl rfl dX6_keepShares_53 ?_
      refine jr_iload hg 1 rfl dX6_keepShares_54 ?_
      refine jr_icmp_ltN (tgt := 67) hg dX6_keepShares_56 (by decide) (by omega) (by omega) (fun h56 => ?_) (fun h56 => ?_)
      · refine jr_iload hg 1 rfl dX6_keepShares_67 ?_
        refine jr_iload hg 0 rfl dX6_keepShares_69 ?_
        refine jr_iaddN hg dX6_keepShares_71 ?_
        refine jr_istore hg dX6_keepShares_72 (by decide) rfl ?_
        have hb3 : z_b3 (z_sr s p) = 2 := by rw [z_b3, if_neg (by omega), if_neg (by omega)]
        have hv0 := z_o1_n hp (k := 0) (by decide) rfl hkn hb3
        have hv1 := z_o1_n hp (k := 1) (by decide) rfl hkn hb3
        have hv2 := z_o1_n hp (k := 2) (by decide) rfl hkn hb3
        refine jr_aload_n hg 4 rfl rfl dX6_keepShares_74 ?_
        refine jr_aload_n hg 4 rfl rfl dX6_keepShares_75 ?_
        refine gf_X6_9 hg (hI 6 (by decide)) dX6_keepShares_76 ?_
        refine jr_iload_n hg 5 rfl rfl dX6_keepShares_79 ?_
        refine jr_iconst hg (nI 3) dX6_keepShares_80 (by decide) ?_
        refine jr_imulN hg dX6_keepShares_81 ?_
        refine jr_iconst hg (nI 0) dX6_keepShares_82 (by decide) ?_
        refine jr_iaddN hg dX6_keepShares_83 ?_
        refine jr_iload_n hg 3 rfl rfl dX6_keepShares_84 ?_
        refine jr_cV3p hg lk_X6_115 (hI 6 (by decide)) rfl rfl (by decide) (by decide) (Nat.le_of_ble_eq_true rfl) dX6_keepShares_85 (c_keep30m hI (j := 3 * p + 0) hx (by omega) (by omega) (hv0.symm) (hl _ (by omega)) (hq _ (by omega))) (fun r M' h => ?_)
        obtain ⟨rfl, x0, f0⟩ := h
        refine jr_st (show _ = [] from rfl) ?_
        refine jr_aload_n hg 4 rfl rfl dX6_keepShares_88 ?_
        refine jr_aload_n hg 4 rfl rfl dX6_keepShares_89 ?_
        refine gf_X6_9 hg (hI 6 (by decide)) dX6_keepShares_90 ?_
        refine jr_iload_n hg 5 rfl rfl dX6_keepShares_93 ?_
        refine jr_iconst hg (nI 3) dX6_keepShares_94 (by decide) ?_
        refine jr_imulN hg dX6_keepShares_95 ?_
        refine jr_iconst hg (nI 1) dX6_keepShares_96 (by decide) ?_
        refine jr_iaddN hg dX6_keepShares_97 ?_
        refine jr_iload_n hg 2 rfl rfl dX6_keepShares_98 ?_
        refine jr_cV3p hg lk_X6_115 (hI 6 (by decide)) rfl rfl (by decide) (by decide) (Nat.le_of_ble_eq_true rfl) dX6_keepShares_99 (c_keep30m hI (j := 3 * p + 1) x0 (by omega) (by omega) (hv1.symm) (hl _ (by omega)) (hq _ (by omega))) (fun r M' h => ?_)
        obtain ⟨rfl, x1, f1⟩ := h
        refine jr_st (show _ = [] from rfl) ?_
        refine jr_aload_n hg 4 rfl rfl dX6_keepShares_102 ?_
        refine jr_aload_n hg 4 rfl rfl dX6_keepShares_103 ?_
        refine gf_X6_9 hg (hI 6 (by decide)) dX6_keepShares_104 ?_
        refine jr_iload_n hg 5 rfl rfl dX6_keepShares_107 ?_
        refine jr_iconst hg (nI 3) dX6_keepShares_108 (by decide) ?_
        refine jr_imulN hg dX6_keepShares_109 ?_
        refine jr_iconst hg (nI 2) dX6_keepShares_110 (by decide) ?_
        refine jr_iaddN hg dX6_keepShares_111 ?_
        refine jr_iload hg 0 rfl dX6_keepShares_112 ?_
        refine jr_cV3p hg lk_X6_115 (hI 6 (by decide)) rfl rfl (by decide) (by decide) (Nat.le_of_ble_eq_true rfl) dX6_keepShares_114 (c_keep30m hI (j := 3 * p + 2) x1 (by omega) (by omega) (hv2.symm) (hl _ (by omega)) (hq _ (by omega))) (fun r M' h => ?_)
        obtain ⟨rfl, x2, f2⟩ := h
        refine jr_st (show _ = [] from rfl) ?_
        exact jr_vret hg rfl dX6_keepShares_117 (⟨rfl, x2, f0.tr (f1.tr f2)⟩)
      · refine jr_iload_n hg 2 rfl rfl dX6_keepShares_59 ?_
        refine jr_iload hg 0 rfl dX6_keepShares_60 ?_
        refine jr_iaddN hg dX6_keepShares_62 ?_
        refine jr_istore_n hg dX6_keepShares_63 rfl (by decide) rfl ?_
        refine jr_goto (tgt := 74) hg dX6_keepShares_64 (by decide) ?_
        have hb3 : z_b3 (z_sr s p) = 1 := by rw [z_b3, if_neg (by omega), if_pos (by omega)]
        have hv0 := z_o1_n hp (k := 0) (by decide) rfl hkn hb3
        have hv1 := z_o1_n hp (k := 1) (by decide) rfl hkn hb3
        have hv2 := z_o1_n hp (k := 2) (by decide) rfl hkn hb3
        refine jr_aload_n hg 4 rfl rfl dX6_keepShares_74 ?_
        refine jr_aload_n hg 4 rfl rfl dX6_keepShares_75 ?_
        refine gf_X6_9 hg (hI 6 (by decide)) dX6_keepShares_76 ?_
        refine jr_iload_n hg 5 rfl rfl dX6_keepShares_79 ?_
        refine jr_iconst hg (nI 3) dX6_keepShares_80 (by decide) ?_
        refine jr_imulN hg dX6_keepShares_81 ?_
        refine jr_iconst hg (nI 0) dX6_keepShares_82 (by decide) ?_
        refine jr_iaddN hg dX6_keepShares_83 ?_
        refine jr_iload_n hg 3 rfl rfl dX6_keepShares_84 ?_
        refine jr_cV3p hg lk_X6_115 (hI 6 (by decide)) rfl rfl (by decide) (by decide) (Nat.le_of_ble_eq_true rfl) dX6_keepShares_85 (c_keep30m hI (j := 3 * p + 0) hx (by omega) (by omega) (hv0.symm) (hl _ (by omega)) (hq _ (by omega))) (fun r M' h => ?_)
        obtain ⟨rfl, x0, f0⟩ := h
        refine jr_st (show _ = [] from rfl) ?_
        refine jr_aload_n hg 4 rfl rfl dX6_keepShares_88 ?_
        refine jr_aload_n hg 4 rfl rfl dX6_keepShares_89 ?_
        refine gf_X6_9 hg (hI 6 (by decide)) dX6_keepShares_90 ?_
        refine jr_iload_n hg 5 rfl rfl dX6_keepShares_93 ?_
        refine jr_iconst hg (nI 3) dX6_keepShares_94 (by decide) ?_
        refine jr_imulN hg dX6_keepShares_95 ?_
        refine jr_iconst hg (nI 1) dX6_keepShares_96 (by decide) ?_
        refine jr_iaddN hg dX6_keepShares_97 ?_
        refine jr_iload_n hg 0 rfl rfl dX6_keepShares_98 ?_
        refine jr_cV3p hg lk_X6_115 (hI 6 (by decide)) rfl rfl (by decide) (by decide) (Nat.le_of_ble_eq_true rfl) dX6_keepShares_99 (c_keep30m hI (j := 3 * p + 1) x0 (by omega) (by omega) (hv1.symm) (hl _ (by omega)) (hq _ (by omega))) (fun r M' h => ?_)
        obtain ⟨rfl, x1, f1⟩ := h
        refine jr_st (show _ = [] from rfl) ?_
        refine jr_aload_n hg 4 rfl rfl dX6_keepShares_102 ?_
        refine jr_aload_n hg 4 rfl rfl dX6_keepShares_103 ?_
        refine gf_X6_9 hg (hI 6 (by decide)) dX6_keepShares_104 ?_
        refine jr_iload_n hg 5 rfl rfl dX6_keepShares_107 ?_
        refine jr_iconst hg (nI 3) dX6_keepShares_108 (by decide) ?_
        refine jr_imulN hg dX6_keepShares_109 ?_
        refine jr_iconst hg (nI 2) dX6_keepShares_110 (by decide) ?_
        refine jr_iaddN hg dX6_keepShares_111 ?_
        refine jr_iload hg 2 rfl dX6_keepShares_112 ?_
        refine jr_cV3p hg lk_X6_115 (hI 6 (by decide)) rfl rfl (by decide) (by decide) (Nat.le_of_ble_eq_true rfl) dX6_keepShares_114 (c_keep30m hI (j := 3 * p + 2) x1 (by omega) (by omega) (hv2.symm) (hl _ (by omega)) (hq _ (by omega))) (fun r M' h => ?_)
        obtain ⟨rfl, x2, f2⟩ := h
        refine jr_st (show _ = [] from rfl) ?_
        exact jr_vret hg rfl dX6_keepShares_117 (⟨rfl, x2, f0.tr (f1.tr f2)⟩)
    · refine jr_iload_n hg 3 rfl rfl dX6_keepShares_45 ?_
      refine jr_iload hg 0 rfl dX6_keepShares_46 ?_
      refine jr_iaddN hg dX6_keepShares_48 ?_
      refine jr_istore_n hg dX6_keepShares_49 rfl (by decide) rfl ?_
      refine jr_goto (tgt := 74) hg dX6_keepShares_50 (by decide) ?_
      have hb3 : z_b3 (z_sr s p) = 0 := if_pos ⟨by omega, by omega⟩
      have hv0 := z_o1_n hp (k := 0) (by decide) rfl hkn hb3
      have hv1 := z_o1_n hp (k := 1) (by decide) rfl hkn hb3
      have hv2 := z_o1_n hp (k := 2) (by decide) rfl hkn hb3
      refine jr_aload_n hg 4 rfl rfl dX6_keepShares_74 ?_
      refine jr_aload_n hg 4 rfl rfl dX6_keepShares_75 ?_
      refine gf_X6_9 hg (hI 6 (by decide)) dX6_keepShares_76 ?_
      refine jr_iload_n hg 5 rfl rfl dX6_keepShares_79 ?_
      refine jr_iconst hg (nI 3) dX6_keepShares_80 (by decide) ?_
      refine jr_imulN hg dX6_keepShares_81 ?_
      refine jr_iconst hg (nI 0) dX6_keepShares_82 (by decide) ?_
      refine jr_iaddN hg dX6_keepShares_83 ?_
      refine jr_iload_n hg 0 rfl rfl dX6_keepShares_84 ?_
      refine jr_cV3p hg lk_X6_115 (hI 6 (by decide)) rfl rfl (by decide) (by decide) (Nat.le_of_ble_eq_true rfl) dX6_keepShares_85 (c_keep30m hI (j := 3 * p + 0) hx (by omega) (by omega) (hv0.symm) (hl _ (by omega)) (hq _ (by omega))) (fun r M' h => ?_)
      obtain ⟨rfl, x0, f0⟩ := h
      refine jr_st (show _ = [] from rfl) ?_
      refine jr_aload_n hg 4 rfl rfl dX6_keepShares_88 ?_
      refine jr_aload_n hg 4 rfl rfl dX6_keepShares_89 ?_
      refine gf_X6_9 hg (hI 6 (by decide)) dX6_keepShares_90 ?_
      refine jr_iload_n hg 5 rfl rfl dX6_keepShares_93 ?_
      refine jr_iconst hg (nI 3) dX6_keepShares_94 (by decide) ?_
      refine jr_imulN hg dX6_keepShares_95 ?_
      refine jr_iconst hg (nI 1) dX6_keepShares_96 (by decide) ?_
      refine jr_iaddN hg dX6_keepShares_97 ?_
      refine jr_iload_n hg 3 rfl rfl dX6_keepShares_98 ?_
      refine jr_cV3p hg lk_X6_115 (hI 6 (by decide)) rfl rfl (by decide) (by decide) (Nat.le_of_ble_eq_true rfl) dX6_keepShares_99 (c_keep30m hI (j := 3 * p + 1) x0 (by omega) (by omega) (hv1.symm) (hl _ (by omega)) (hq _ (by omega))) (fun r M' h => ?_)
      obtain ⟨rfl, x1, f1⟩ := h
      refine jr_st (show _ = [] from rfl) ?_
      refine jr_aload_n hg 4 rfl rfl dX6_keepShares_102 ?_
      refine jr_aload_n hg 4 rfl rfl dX6_keepShares_103 ?_
      refine gf_X6_9 hg (hI 6 (by decide)) dX6_keepShares_104 ?_
      refine jr_iload_n hg 5 rfl rfl dX6_keepShares_107 ?_
      refine jr_iconst hg (nI 3) dX6_keepShares_108 (by decide) ?_
      refine jr_imulN hg dX6_keepShares_109 ?_
      refine jr_iconst hg (nI 2) dX6_keepShares_110 (by decide) ?_
      refine jr_iaddN hg dX6_keepShares_111 ?_
      refine jr_iload hg 2 rfl dX6_keepShares_112 ?_
      refine jr_cV3p hg lk_X6_115 (hI 6 (by decide)) rfl rfl (by decide) (by decide) (Nat.le_of_ble_eq_true rfl) dX6_keepShares_114 (c_keep30m hI (j := 3 * p + 2) x1 (by omega) (by omega) (hv2.symm) (hl _ (by omega)) (hq _ (by omega))) (fun r M' h => ?_)
      obtain ⟨rfl, x2, f2⟩ := h
      refine jr_st (show _ = [] from rfl) ?_
      exact jr_vret hg rfl dX6_keepShares_117 (⟨rfl, x2, f0.tr (f1.tr f2)⟩)

set_option maxRecDepth 100000 in
theorem c_X6_keepKnown {E : mm_E} (hI : mm_FX E) {M : mm_M} {s : zS} (hp24 : s 0 0 ≤ 24) (hk : zW_k s) (ho : zW_o s) (h8 : s 0 1 ≤ 8) {t y : Nat → Nat} {r p : Nat} {b : Bool} (hp : p < s 0 0) (hx : zX_r (z_mix (z_o1 s) (s 12) (3 * p)) t y r (b || z_df (s 12) (z_o1 s) (3 * p)) M) (h1 : s 1 p ≤ 2) (hkn : s 4 p = 1) : mm_Cal E mX6_keepKnown [.ref (E.1 6), .int (nI p), .int (nI ((s 1 p)))] M (fun q M' => q = none ∧ zX_r (z_mix (z_o1 s) (s 12) (3 * p + 3)) t y r (b || z_df (s 12) (z_o1 s) (3 * p + 3)) M' ∧ mm_same [6, 30] M M') := by
  have hl : ∀ j, j < 72 → z_o1 s j < 2 ^ 31 := fun j hj => Nat.lt_of_le_of_lt (z_o1_le hk ho h8 j hj) (by decide)
  have hq : ∀ j, j < 72 → s 12 j < 2 ^ 31 := fun j hj => Nat.lt_of_le_of_lt (ho.1 j hj) (by decide)
  refine jr_entry RX6 (by decide +kernel) (Nat.le_of_ble_eq_true rfl) (fun g hg => ?_)
  refine jr_lv (lv' := [(0, .ref (E.1 6)), (1, .int (nI p)), (2, .int (nI ((s 1 p))))]) [0, 1, 2] rfl ?_
  refine jr_iconst hg (nI 0) dX6_keepKnown_0 (by decide) ?_
  refine jr_istore_n hg dX6_keepKnown_1 rfl (by decide) rfl ?_
  have lp2 : ∀ k : Nat, k ≤ 3 → ∀ M1, zX_r (z_mix (z_o1 s) (s 12) (3 * p + k)) t y r (b || z_df (s 12) (z_o1 s) (3 * p + k)) M1 → mm_same [6, 30] M M1 → mm_J g E mX6_keepKnown (fun q M' => q = none ∧ zX_r (z_mix (z_o1 s) (s 12) (3 * p + 3)) t y r (b || z_df (s 12) (z_o1 s) (3 * p + 3)) M' ∧ mm_same [6, 30] M M') 2 [(0, .ref (E.1 6)), (1, .int (nI p)), (2, .int (nI ((s 1 p)))), (3, .int (nI k))] [] (M1) := by
    refine jr_up (S := fun k => ∀ M1, zX_r (z_mix (z_o1 s) (s 12) (3 * p + k)) t y r (b || z_df (s 12) (z_o1 s) (3 * p + k)) M1 → mm_same [6, 30] M M1 → mm_J g E mX6_keepKnown (fun q M' => q = none ∧ zX_r (z_mix (z_o1 s) (s 12) (3 * p + 3)) t y r (b || z_df (s 12) (z_o1 s) (3 * p + 3)) M' ∧ mm_same [6, 30] M M') 2 [(0, .ref (E.1 6)), (1, .int (nI p)), (2, .int (nI ((s 1 p)))), (3, .int (nI k))] [] (M1)) (n := 3) ?_ ?_
    · intro M1 hx1 hs
      show mm_J g E mX6_keepKnown (fun q M' => q = none ∧ zX_r (z_mix (z_o1 s) (s 12) (3 * p + 3)) t y r (b || z_df (s 12) (z_o1 s) (3 * p + 3)) M' ∧ mm_same [6, 30] M M') 2 [(0, .ref (E.1 6)), (1, .int (nI p)), (2, .int (nI ((s 1 p)))), (3, .int (nI (3)))] [] (M1)
      refine jr_iload_n hg 3 rfl rfl dX6_keepKnown_2 ?_
      refine jr_iconst hg (nI 3) dX6_keepKnown_3 (by decide) ?_
      refine jr_icmp_geN (tgt := 38) hg dX6_keepKnown_4 (by decide) (by omega) (by omega) (fun h4 => ?_) (fun h => by omega)
      exact jr_vret hg rfl dX6_keepKnown_38 (⟨rfl, hx1, hs⟩)
    · intro k hk ih M1 hx1 hs
      show mm_J g E mX6_keepKnown (fun q M' => q = none ∧ zX_r (z_mix (z_o1 s) (s 12) (3 * p + 3)) t y r (b || z_df (s 12) (z_o1 s) (3 * p + 3)) M' ∧ mm_same [6, 30] M M') 2 [(0, .ref (E.1 6)), (1, .int (nI p)), (2, .int (nI ((s 1 p)))), (3, .int (nI k))] [] (M1)
      have hk3 : k < 3 := by omega
      refine jr_iload_n hg 3 rfl rfl dX6_keepKnown_2 ?_
      refine jr_iconst hg (nI 3) dX6_keepKnown_3 (by decide) ?_
      refine jr_icmp_geN (tgt := 38) hg dX6_keepKnown_4 (by decide) (by omega) (by omega) (fun h => by omega) (fun h4 => ?_)
      refine jr_aload_n hg 0 rfl rfl dX6_keepKnown_7 ?_
      refine jr_aload_n hg 0 rfl rfl dX6_keepKnown_8 ?_
      refine gf_X6_9 hg (hI 6 (by decide)) dX6_keepKnown_9 ?_
      refine jr_iload_n hg 1 rfl rfl dX6_keepKnown_12 ?_
      refine jr_iconst hg (nI 3) dX6_keepKnown_13 (by decide) ?_
      refine jr_imulN hg dX6_keepKnown_14 ?_
      refine jr_iload_n hg 3 rfl rfl dX6_keepKnown_15 ?_
      refine jr_iaddN hg dX6_keepKnown_16 ?_
      refine jr_iload_n hg 3 rfl rfl dX6_keepKnown_17 ?_
      refine jr_iload_n hg 2 rfl rfl dX6_keepKnown_18 ?_
      refine jr_icmp_neN (tgt := 28) hg dX6_keepKnown_19 (by decide) (by omega) (by omega) (fun h19 => ?_) (fun h19 => ?_)
      · refine jr_iconst hg (nI 0) dX6_keepKnown_28 (by decide) ?_
        refine jr_cV3p hg lk_X6_115 (hI 6 (by decide)) rfl rfl (by decide) (by decide) (Nat.le_of_ble_eq_true rfl) dX6_keepKnown_29 (c_keep30m hI (j := 3 * p + k) hx1 (by omega) (by omega) (by rw [z_o1_k hp hk3 rfl hkn, if_neg h19]) (hl _ (by omega)) (hq _ (by omega))) (fun r M' h => ?_)
        obtain ⟨rfl, x, f⟩ := h
        refine jr_st (show _ = [] from rfl) ?_
        refine jr_iinc hg 3 rfl (nI (_ + 1)) (nI_1 _) dX6_keepKnown_32 (by decide) rfl ?_
        refine jr_goto (tgt := 2) hg dX6_keepKnown_35 (by decide) ?_
        exact jr_lv [1, 2, 3, 0] rfl (ih _ x (hs.tr f))
      · refine jr_sipush hg (nI 1000) dX6_keepKnown_22 (by decide) ?_
        refine jr_goto (tgt := 29) hg dX6_keepKnown_25 (by decide) ?_
        refine jr_cV3p hg lk_X6_115 (hI 6 (by decide)) rfl rfl (by decide) (by decide) (Nat.le_of_ble_eq_true rfl) dX6_keepKnown_29 (c_keep30m hI (j := 3 * p + k) hx1 (by omega) (by omega) (by rw [z_o1_k hp hk3 rfl hkn, if_pos h19]) (hl _ (by omega)) (hq _ (by omega))) (fun r M' h => ?_)
        obtain ⟨rfl, x, f⟩ := h
        refine jr_st (show _ = [] from rfl) ?_
        refine jr_iinc hg 3 rfl (nI (_ + 1)) (nI_1 _) dX6_keepKnown_32 (by decide) rfl ?_
        refine jr_goto (tgt := 2) hg dX6_keepKnown_35 (by decide) ?_
        exact jr_lv [1, 2, 3, 0] rfl (ih _ x (hs.tr f))
  exact jr_lv [1, 2, 3, 0] rfl (lp2 0 (by omega) M hx mm_same.rf)

set_option maxRecDepth 100000 in
theorem c_X6_weigh {E : mm_E} (hI : mm_FX E) {M : mm_M} {s : zS} (Ro : zX_o s M) (Wo : zW_o s) {n : Nat} (h7 : s 7 n < 8) (h8 : s 8 n < 24) (h9 : s 9 n ≤ 3) (hco : z_co s n = true) (hc : zX_c s n M) : mm_Cal E mX6_weigh [.ref (E.1 6), .int (nI ((s 7 n))), .int (nI ((s 8 n))), .int (nI ((s 9 n)))] M (fun q M' => q = none ∧ zX_c s (n + 1) M' ∧ mm_same [33] M M') := by
  refine jr_entry RX6 (by decide +kernel) (Nat.le_of_ble_eq_true rfl) (fun g hg => ?_)
  refine jr_lv (lv' := [(0, .ref (E.1 6)), (1, .int (nI ((s 7 n)))), (2, .int (nI ((s 8 n)))), (3, .int (nI ((s 9 n))))]) [0, 1, 2, 3] rfl ?_
  refine jr_iconst hg (nI 0) dX6_weigh_0 (by decide) ?_
  refine jr_istore hg dX6_weigh_1 (by decide) rfl ?_
  have lp3 : ∀ k : Nat, k ≤ 3 → ∀ M1, (∀ q j, q < 24 → j < 3 → M1.2 33 (q * 3 + j) = lN (if q = s 8 n ∧ j < k then z_ch s q j (n + 1) else z_ch s q j n)) → mm_same [33] M M1 → mm_J g E mX6_weigh (fun q M' => q = none ∧ zX_c s (n + 1) M' ∧ mm_same [33] M M') 3 [(0, .ref (E.1 6)), (1, .int (nI ((s 7 n)))), (2, .int (nI ((s 8 n)))), (3, .int (nI ((s 9 n)))), (4, .int (nI k))] [] (M1) := by
    refine jr_up (S := fun k => ∀ M1, (∀ q j, q < 24 → j < 3 → M1.2 33 (q * 3 + j) = lN (if q = s 8 n ∧ j < k then z_ch s q j (n + 1) else z_ch s q j n)) → mm_same [33] M M1 → mm_J g E mX6_weigh (fun q M' => q = none ∧ zX_c s (n + 1) M' ∧ mm_same [33] M M') 3 [(0, .ref (E.1 6)), (1, .int (nI ((s 7 n)))), (2, .int (nI ((s 8 n)))), (3, .int (nI ((s 9 n)))), (4, .int (nI k))] [] (M1)) (n := 3) ?_ ?_
    · intro M1 hch hs
      show mm_J g E mX6_weigh (fun q M' => q = none ∧ zX_c s (n + 1) M' ∧ mm_same [33] M M') 3 [(0, .ref (E.1 6)), (1, .int (nI ((s 7 n)))), (2, .int (nI ((s 8 n)))), (3, .int (nI ((s 9 n)))), (4, .int (nI (3)))] [] (M1)
      refine jr_iload hg 4 rfl dX6_weigh_3 ?_
      refine jr_iconst hg (nI 3) dX6_weigh_5 (by decide) ?_
      refine jr_icmp_geN (tgt := 47) hg dX6_weigh_6 (by decide) (by omega) (by omega) (fun h6 => ?_) (fun h => by omega)
      exact jr_vret hg rfl dX6_weigh_47 (⟨rfl, fun q j hq hj => by rw [hch q j hq hj]; by_cases e : q = s 8 n; rw [if_pos ⟨e, hj⟩]; rw [if_neg (by omega), z_ch, if_neg (by simp [Ne.symm e])], hs⟩)
    · intro k hk ih M1 hch hs
      show mm_J g E mX6_weigh (fun q M' => q = none ∧ zX_c s (n + 1) M' ∧ mm_same [33] M M') 3 [(0, .ref (E.1 6)), (1, .int (nI ((s 7 n)))), (2, .int (nI ((s 8 n)))), (3, .int (nI ((s 9 n)))), (4, .int (nI k))] [] (M1)
      have hcu : M1.2 33 (s 8 n * 3 + k) = lN (z_ch s (s 8 n) k n) := (hch (s 8 n) k h8 (by omega)).trans (by rw [if_neg (by omega)])
      have ht := Wo.2.1 (12 * s 7 n + 4 * k + s 9 n) (by omega)
      refine jr_iload hg 4 rfl dX6_weigh_3 ?_
      refine jr_iconst hg (nI 3) dX6_weigh_5 (by decide) ?_
      refine jr_icmp_geN (tgt := 47) hg dX6_weigh_6 (by decide) (by omega) (by omega) (fun h => by omega) (fun h6 => ?_)
      refine jr_iload_n hg 2 rfl rfl dX6_weigh_9 ?_
      refine jr_iload hg 4 rfl dX6_weigh_10 ?_
      refine jr_cS2v hg lk_X6_35 (by decide) (by decide) (Nat.le_of_ble_eq_true rfl) dX6_weigh_12 (c_X6_isOddsCell hI h8 (by omega)) ?_
      refine jr_if_eqN (tgt := 41) hg dX6_weigh_15 (by decide) (by omega) (fun h => by omega) (fun h15 => ?_)
      refine jr_aload_n hg 0 rfl rfl dX6_weigh_18 ?_
      refine gf_X6_21 hg (hI 6 (by decide)) dX6_weigh_19 ?_
      refine jr_iload_n hg 2 rfl rfl dX6_weigh_22 ?_
      refine jr_iconst hg (nI 3) dX6_weigh_23 (by decide) ?_
      refine jr_imulN hg dX6_weigh_24 ?_
      refine jr_iload hg 4 rfl dX6_weigh_25 ?_
      refine jr_iaddN hg dX6_weigh_27 ?_
      refine jr_dup2 hg dX6_weigh_28 rfl rfl ?_
      refine jr_laldN hg (n := 72) (by omega) (by decide) (hI 33 (by decide)) (ac_33 _ _) dX6_weigh_29 ?_
      refine jr_topl (hcu) ?_
      refine jr_aload_n hg 0 rfl rfl dX6_weigh_30 ?_
      refine jr_iload_n hg 1 rfl rfl dX6_weigh_31 ?_
      refine jr_iload hg 4 rfl dX6_weigh_32 ?_
      refine jr_iload_n hg 3 rfl rfl dX6_weigh_34 ?_
      refine jr_cV3v hg lk_X6_112 (hI 6 (by decide)) rfl rfl (by decide) (by decide) (Nat.le_of_ble_eq_true rfl) dX6_weigh_35 (c_X6_tableOf hI (zX_o_c (hs.at (by decide)) Ro) Wo h7 (by omega) (by omega)) ?_
      refine jr_i2l hg (lN _) dX6_weigh_38 (nI_l (by omega)) ?_
      refine jr_lmul hg dX6_weigh_39 ?_
      refine jr_topl (lN_mul _ _) ?_
      refine jr_lastN hg (n := 72) (by omega) (by decide) (hI 33 (by decide)) (ac_33) dX6_weigh_40 ?_
      refine jr_iinc hg 4 rfl (nI (_ + 1)) (nI_1 _) dX6_weigh_41 (by decide) rfl ?_
      refine jr_goto (tgt := 3) hg dX6_weigh_44 (by decide) ?_
      refine jr_lv [1, 2, 3, 4, 0] rfl (ih _ (fun q j hq hj => ?_) (hs.sl (by decide)))
      show vp_updL (M1.2 33) (s 8 n * 3 + k) _ (q * 3 + j) = _
      by_cases e : q = s 8 n ∧ j = k
      · obtain ⟨e1, e2⟩ := e; subst e1; subst e2; rw [pk_uLs, if_pos ⟨rfl, by omega⟩, z_ch, if_pos (by simp [hco])]
      · rw [pk_uLn (by omega), hch q j hq hj]
        by_cases e1 : q = s 8 n ∧ j < k
        · rw [if_pos e1, if_pos ⟨e1.1, by omega⟩]
        · rw [if_neg e1, if_neg (by omega)]
  exact jr_lv [1, 2, 3, 4, 0] rfl (lp3 0 (by omega) M (fun q j hq hj => by rw [if_neg (by omega)]; exact hc q j hq hj) mm_same.rf)
