theorem zpw {n : Nat} (h : n ≤ 8) : 2 ^ n < 2 ^ 31 := Nat.lt_of_le_of_lt (zpow8 h) (by decide)
def zX_q1 (s : zS) (M : mm_M) : Prop := zX_q0 s M ∧ M.1 5 6 = nI 1 ∧ zX_pl s (2 ^ s 0 6) M
theorem zX_q1_q {s : zS} {M : mm_M} (h : zX_q1 s M) : zX_q s M := zX_q_iff.mpr ⟨h.1, Or.inr h.2⟩

set_option maxRecDepth 100000 in
theorem c_X5_plan {E : mm_E} (hI : mm_FX E) {M : mm_M} {s : zS} (hR : zX_q0 s M) (hpl : M.1 5 6 = nI 0 ∨ (M.1 5 6 = nI 1 ∧ zX_pl s (2 ^ s 0 6) M)) (hW : zW_q s) : mm_Cal E mX5_plan [.ref (E.1 5)] M (fun v M' => v = none ∧ zX_q1 s M' ∧ mm_same [5, 27, 28, 29] M M') := by
  have hn2 := hW.1
  have hn8 := hW.2.1
  have hpw := zpow8 hn8
  have hp1 := Nat.two_pow_pos (s 0 6)
  refine jr_entry RX5 (by decide +kernel) (Nat.le_of_ble_eq_true rfl) (fun g hg => ?_)
  refine jr_lv (lv' := [(0, .ref (E.1 5))]) [0] rfl ?_
  rcases hpl with h0 | ⟨h1, h2⟩
  · skip
    refine jr_aload_n hg 0 rfl rfl dX5_plan_0 ?_
    refine gf_X5_35 hg (hI 5 (by decide)) dX5_plan_1 ?_
    refine jr_top (h0) ?_
    refine jr_if_eqN (tgt := 8) hg dX5_plan_4 (by decide) (by omega) (fun h4 => ?_) (fun h => by omega)
    refine jr_aload_n hg 0 rfl rfl dX5_plan_8 ?_
    refine jr_iconst hg (nI 1) dX5_plan_9 (by decide) ?_
    refine pf_X5_35 hg (by first | exact Or.inl rfl | exact Or.inr rfl | exact z01 _) (hI 5 (by decide)) dX5_plan_10 ?_
    refine jr_iconst hg (nI 1) dX5_plan_13 (by decide) ?_
    refine jr_istore_n hg dX5_plan_14 rfl (by decide) rfl ?_
    have lp15 : ∀ S : Nat, S ≤ 2 ^ s 0 6 - 1 → ∀ M1, zX_q0 s M1 → M1.1 5 6 = nI 1 → zX_pl s (S + 1) M1 → mm_same [5, 27, 28, 29] M M1 → mm_J g E mX5_plan (fun v M' => v = none ∧ zX_q1 s M' ∧ mm_same [5, 27, 28, 29] M M') 15 [(0, .ref (E.1 5)), (1, .int (nI ((S + 1))))] [] (M1) := by
      refine jr_up (S := fun S => ∀ M1, zX_q0 s M1 → M1.1 5 6 = nI 1 → zX_pl s (S + 1) M1 → mm_same [5, 27, 28, 29] M M1 → mm_J g E mX5_plan (fun v M' => v = none ∧ zX_q1 s M' ∧ mm_same [5, 27, 28, 29] M M') 15 [(0, .ref (E.1 5)), (1, .int (nI ((S + 1))))] [] (M1)) (n := 2 ^ s 0 6 - 1) ?_ ?_
      · intro M1 hq h56 hP hs
        show mm_J g E mX5_plan (fun v M' => v = none ∧ zX_q1 s M' ∧ mm_same [5, 27, 28, 29] M M') 15 [(0, .ref (E.1 5)), (1, .int (nI (((2 ^ s 0 6 - 1) + 1))))] [] (M1)
        refine jr_iload_n hg 1 rfl rfl dX5_plan_15 ?_
        refine jr_iconst hg (nI 1) dX5_plan_16 (by decide) ?_
        refine jr_aload_n hg 0 rfl rfl dX5_plan_17 ?_
        refine gf_X5_31 hg (hI 5 (by decide)) dX5_plan_18 ?_
        refine jr_top (hq.1) ?_
        refine jr_ishl hg dX5_plan_21 ?_
        refine jr_top (nI_shl1 (by omega)) ?_
        refine jr_icmp_geN (tgt := 43) hg dX5_plan_22 (by decide) (by omega) (by omega) (fun h22 => ?_) (fun h => by omega)
        exact jr_vret hg rfl dX5_plan_43 (⟨rfl, ⟨hq, h56, fun T a b => hP T a (by omega)⟩, hs⟩)
      · intro S hS ih M1 hq h56 hP hs
        show mm_J g E mX5_plan (fun v M' => v = none ∧ zX_q1 s M' ∧ mm_same [5, 27, 28, 29] M M') 15 [(0, .ref (E.1 5)), (1, .int (nI ((S + 1))))] [] (M1)
        refine jr_iload_n hg 1 rfl rfl dX5_plan_15 ?_
        refine jr_iconst hg (nI 1) dX5_plan_16 (by decide) ?_
        refine jr_aload_n hg 0 rfl rfl dX5_plan_17 ?_
        refine gf_X5_31 hg (hI 5 (by decide)) dX5_plan_18 ?_
        refine jr_top (hq.1) ?_
        refine jr_ishl hg dX5_plan_21 ?_
        refine jr_top (nI_shl1 (by omega)) ?_
        refine jr_icmp_geN (tgt := 43) hg dX5_plan_22 (by decide) (by omega) (by omega) (fun h => by omega) (fun h22 => ?_)
        refine jr_iload_n hg 1 rfl rfl dX5_plan_25 ?_
        refine jr_sipush hg (nI 256) dX5_plan_26 (by decide) ?_
        refine jr_icmp_geN (tgt := 43) hg dX5_plan_29 (by decide) (by omega) (by omega) (fun h => by omega) (fun h29 => ?_)
        refine jr_aload_n hg 0 rfl rfl dX5_plan_32 ?_
        refine jr_iload_n hg 1 rfl rfl dX5_plan_33 ?_
        refine jr_cV1p hg lk_X5_66 (hI 5 (by decide)) rfl rfl (by decide) (by decide) (Nat.le_of_ble_eq_true rfl) dX5_plan_34 (c_X5_planSet hI hq hW (by omega) (by omega) hP) (fun r M' h => ?_)
        obtain ⟨rfl, hq2, hP2, h5, hs2⟩ := h
        refine jr_st (show _ = [] from rfl) ?_
        refine jr_iinc hg 1 rfl (nI (_ + 1)) (nI_1 _) dX5_plan_37 (by decide) rfl ?_
        refine jr_goto (tgt := 15) hg dX5_plan_40 (by decide) ?_
        exact jr_lv [1, 0] rfl (ih M' hq2 (by rw [h5]; exact h56) hP2 (hs.tr (hs2.wk (by decide))))
    exact jr_lv [1, 0] rfl (lp15 0 (by omega) (mm_si M 5 (upd (M.1 5) 6 (nI 1))) hR rfl (fun T a b => by omega) (mm_same.rf.si (by decide)))
  · skip
    refine jr_aload_n hg 0 rfl rfl dX5_plan_0 ?_
    refine gf_X5_35 hg (hI 5 (by decide)) dX5_plan_1 ?_
    refine jr_top (h1) ?_
    refine jr_if_eqN (tgt := 8) hg dX5_plan_4 (by decide) (by omega) (fun h => by omega) (fun h4 => ?_)
    exact jr_vret hg rfl dX5_plan_7 (⟨rfl, ⟨hR, h1, h2⟩, mm_same.rf⟩)

set_option maxRecDepth 100000 in
theorem c_X5_asksOf {E : mm_E} (hI : mm_FX E) {M : mm_M} {s : zS} (hR : zX_q s M) (hW : zW_q s) {S : Nat} (h1 : 1 ≤ S) (hS : S < 2 ^ s 0 6) : mm_Cal E mX5_asksOf [.ref (E.1 5), .int (nI S)] M (fun v M' => v = some (.int (nI (z_e (s 15) (s 16) S).1)) ∧ zX_q s M' ∧ mm_same [5, 27, 28, 29] M M') := by
  have hpw := zpow8 hW.2.1
  refine jr_entry RX5 (by decide +kernel) (Nat.le_of_ble_eq_true rfl) (fun g hg => ?_)
  refine jr_lv (lv' := [(0, .ref (E.1 5)), (1, .int (nI S))]) [0, 1] rfl ?_
  refine jr_aload_n hg 0 rfl rfl dX5_asksOf_0 ?_
  refine jr_cV0p hg lk_X5_43 (hI 5 (by decide)) rfl rfl (by decide) (by decide) (Nat.le_of_ble_eq_true rfl) dX5_asksOf_1 (c_X5_plan hI (zX_q_iff.mp hR).1 (zX_q_iff.mp hR).2 hW) (fun r M' h => ?_)
  obtain ⟨rfl, hq1, hs⟩ := h
  refine jr_st (show _ = [] from rfl) ?_
  refine jr_aload_n hg 0 rfl rfl dX5_asksOf_4 ?_
  refine jr_iload_n hg 1 rfl rfl dX5_asksOf_5 ?_
  refine jr_cV1v hg lk_X5_46 (hI 5 (by decide)) rfl rfl (by decide) (by decide) (Nat.le_of_ble_eq_true rfl) dX5_asksOf_6 (c_X5_plannedAsks hI (by omega) (hq1.2.2 S h1 hS).1) ?_
  exact jr_iret hg rfl dX5_asksOf_9 (⟨rfl, zX_q1_q hq1, hs⟩)

set_option maxRecDepth 100000 in
theorem c_X5_firstOf {E : mm_E} (hI : mm_FX E) {M : mm_M} {s : zS} (hR : zX_q s M) (hW : zW_q s) {S : Nat} (h1 : 1 ≤ S) (hS : S < 2 ^ s 0 6) : mm_Cal E mX5_firstOf [.ref (E.1 5), .int (nI S)] M (fun v M' => v = some (.int (zmv (z_e (s 15) (s 16) S).2.1)) ∧ zX_q s M' ∧ mm_same [5, 27, 28, 29] M M') := by
  have hpw := zpow8 hW.2.1
  refine jr_entry RX5 (by decide +kernel) (Nat.le_of_ble_eq_true rfl) (fun g hg => ?_)
  refine jr_lv (lv' := [(0, .ref (E.1 5)), (1, .int (nI S))]) [0, 1] rfl ?_
  refine jr_aload_n hg 0 rfl rfl dX5_firstOf_0 ?_
  refine jr_cV0p hg lk_X5_43 (hI 5 (by decide)) rfl rfl (by decide) (by decide) (Nat.le_of_ble_eq_true rfl) dX5_firstOf_1 (c_X5_plan hI (zX_q_iff.mp hR).1 (zX_q_iff.mp hR).2 hW) (fun r M' h => ?_)
  obtain ⟨rfl, hq1, hs⟩ := h
  refine jr_st (show _ = [] from rfl) ?_
  refine jr_aload_n hg 0 rfl rfl dX5_firstOf_4 ?_
  refine jr_iload_n hg 1 rfl rfl dX5_firstOf_5 ?_
  refine jr_cV1v hg lk_X5_49 (hI 5 (by decide)) rfl rfl (by decide) (by decide) (Nat.le_of_ble_eq_true rfl) dX5_firstOf_6 (c_X5_plannedFirst hI (by omega) (hq1.2.2 S h1 hS).2.1) ?_
  exact jr_iret hg rfl dX5_firstOf_9 (⟨rfl, zX_q1_q hq1, hs⟩)

set_option maxRecDepth 100000 in
theorem c_X5_depthOf {E : mm_E} (hI : mm_FX E) {M : mm_M} {s : zS} (hR : zX_q s M) (hW : zW_q s) {S : Nat} (h1 : 1 ≤ S) (hS : S < 2 ^ s 0 6) : mm_Cal E mX5_depthOf [.ref (E.1 5), .int (nI S)] M (fun v M' => v = some (.int (nI (z_e (s 15) (s 16) S).2.2)) ∧ zX_q s M' ∧ mm_same [5, 27, 28, 29] M M') := by
  have hpw := zpow8 hW.2.1
  refine jr_entry RX5 (by decide +kernel) (Nat.le_of_ble_eq_true rfl) (fun g hg => ?_)
  refine jr_lv (lv' := [(0, .ref (E.1 5)), (1, .int (nI S))]) [0, 1] rfl ?_
  refine jr_aload_n hg 0 rfl rfl dX5_depthOf_0 ?_
  refine jr_cV0p hg lk_X5_43 (hI 5 (by decide)) rfl rfl (by decide) (by decide) (Nat.le_of_ble_eq_true rfl) dX5_depthOf_1 (c_X5_plan hI (zX_q_iff.mp hR).1 (zX_q_iff.mp hR).2 hW) (fun r M' h => ?_)
  obtain ⟨rfl, hq1, hs⟩ := h
  refine jr_st (show _ = [] from rfl) ?_
  refine jr_aload_n hg 0 rfl rfl dX5_depthOf_4 ?_
  refine jr_iload_n hg 1 rfl rfl dX5_depthOf_5 ?_
  refine jr_cV1v hg lk_X5_52 (hI 5 (by decide)) rfl rfl (by decide) (by decide) (Nat.le_of_ble_eq_true rfl) dX5_depthOf_6 (c_X5_plannedDepth hI (by omega) (hq1.2.2 S h1 hS).2.2) ?_
  exact jr_iret hg rfl dX5_depthOf_9 (⟨rfl, zX_q1_q hq1, hs⟩)

theorem z_wt_eq (w q : Nat → Nat) (n t : Nat) : z_wt w q n t = if (z_e w q (2 ^ n - 1)).2.1 = 0 then 0 else z_wf w q t 8 (if (q ((z_e w q (2 ^ n - 1)).2.1 - 1)).testBit t then z_no (2 ^ n - 1) (q ((z_e w q (2 ^ n - 1)).2.1 - 1)) else (2 ^ n - 1) &&& q ((z_e w q (2 ^ n - 1)).2.1 - 1)) := rfl
/-- the other side of a question -/
theorem zother {A Y : Nat} {b : Bool} (hA : A < 256) (hY : Y < 256) : nI A &&& (nI (if b then A &&& Y else z_no A Y) ^^^ (-1)) = nI (if b then z_no A Y else A &&& Y) := by
  have sp := zsplit A hA Y hY
  have l : (if b then A &&& Y else z_no A Y) < 256 := by split <;> omega
  rw [nI_xm1 l hA]
  congr 1
  rw [z_no]
  apply Nat.eq_of_testBit_eq
  intro i
  by_cases hi : i < 8
  · cases b
    · rw [if_neg (by decide), if_neg (by decide), z_no]
      simp only [Nat.testBit_and, Nat.testBit_xor, z255 hi]
      cases A.testBit i <;> cases Y.testBit i <;> rfl
    · rw [if_pos rfl, if_pos rfl, z_no]
      simp only [Nat.testBit_and, Nat.testBit_xor, z255 hi]
      cases A.testBit i <;> cases Y.testBit i <;> rfl
  · have q : A.testBit i = false := Nat.testBit_lt_two_pow (Nat.lt_of_lt_of_le hA (show 2 ^ 8 ≤ 2 ^ i from Nat.pow_le_pow_right (by decide) (by omega)))
    rw [Nat.testBit_and, q]
    cases b <;> simp [z_no, q]

set_option maxRecDepth 100000 in
theorem c_X5_wrongTurn {E : mm_E} (hI : mm_FX E) {M : mm_M} {s : zS} (hR : zX_q s M) (hW : zW_q s) {t : Nat} (ht : t < s 0 6) : mm_Cal E mX5_wrongTurn [.ref (E.1 5), .int (nI t)] M (fun v M' => v = some (.int (nI (z_wt (s 15) (s 16) (s 0 6) t))) ∧ zX_q s M' ∧ mm_same [5, 27, 28, 29] M M') := by
  have hn8 := hW.2.1
  have hn2 := hW.1
  have hpw := zpow8 hn8
  have hp1 : 2 ^ 2 ≤ 2 ^ s 0 6 := Nat.pow_le_pow_right (by decide) hn2
  have hq := zW_q256 hW
  refine jr_entry RX5 (by decide +kernel) (Nat.le_of_ble_eq_true rfl) (fun g hg => ?_)
  refine jr_lv (lv' := [(0, .ref (E.1 5)), (1, .int (nI t))]) [0, 1] rfl ?_
  refine jr_aload_n hg 0 rfl rfl dX5_wrongTurn_0 ?_
  refine jr_cV0p hg lk_X5_43 (hI 5 (by decide)) rfl rfl (by decide) (by decide) (Nat.le_of_ble_eq_true rfl) dX5_wrongTurn_1 (c_X5_plan hI (zX_q_iff.mp hR).1 (zX_q_iff.mp hR).2 hW) (fun r M' h => ?_)
  obtain ⟨rfl, hq1, hs⟩ := h
  refine jr_st (show _ = [] from rfl) ?_
  refine jr_iconst hg (nI 1) dX5_wrongTurn_4 (by decide) ?_
  refine jr_aload_n hg 0 rfl rfl dX5_wrongTurn_5 ?_
  refine gf_X5_31 hg (hI 5 (by decide)) dX5_wrongTurn_6 ?_
  refine jr_top (hq1.1.1) ?_
  refine jr_ishl hg dX5_wrongTurn_9 ?_
  refine jr_top (nI_shl1 (by omega)) ?_
  refine jr_iconst hg (nI 1) dX5_wrongTurn_10 (by decide) ?_
  refine jr_isubN hg dX5_wrongTurn_11 (by omega) ?_
  refine jr_istore_n hg dX5_wrongTurn_12 rfl (by decide) rfl ?_
  have ha := hq1.2.2 (2 ^ s 0 6 - 1) (by omega) (by omega)
  refine jr_aload_n hg 1 rfl rfl dX5_wrongTurn_13 ?_
  refine jr_iload_n hg 0 rfl rfl dX5_wrongTurn_14 ?_
  refine jr_cV1v hg lk_X5_49 (hI 5 (by decide)) rfl rfl (by decide) (by decide) (Nat.le_of_ble_eq_true rfl) dX5_wrongTurn_15 (c_X5_plannedFirst hI (by omega) ha.2.1) ?_
  refine jr_istore_n hg dX5_wrongTurn_18 rfl (by decide) rfl ?_
  have hf0 := z_e_first (w := s 15) (S := 2 ^ s 0 6 - 1) (by omega) hq
  have hwt := z_wt_eq (s 15) (s 16) (s 0 6) t
  generalize hF : (z_e (s 15) (s 16) (2 ^ s 0 6 - 1)).2.1 = F at hf0 hwt ⊢
  rcases F with _ | k
  · rw [if_pos rfl] at hwt
    refine jr_iload_n hg 0 rfl rfl dX5_wrongTurn_19 ?_
    refine jr_iconst hg (-1) dX5_wrongTurn_20 (by decide) ?_
    refine jr_icmp_ne (tgt := 26) hg dX5_wrongTurn_21 (by decide) (fun h => absurd rfl h) (fun h21 => ?_)
    refine jr_iconst hg (nI 0) dX5_wrongTurn_24 (by decide) ?_
    exact jr_iret hg rfl dX5_wrongTurn_25 (⟨by rw [hwt], zX_q1_q hq1, hs⟩)
  · rw [if_neg (Nat.succ_ne_zero k), Nat.add_sub_cancel] at hwt
    have hf1 := hf0 (Nat.succ_ne_zero k)
    rw [Nat.add_sub_cancel] at hf1
    rw [zmv_s]
    refine jr_iload_n hg 0 rfl rfl dX5_wrongTurn_19 ?_
    refine jr_iconst hg (-1) dX5_wrongTurn_20 (by decide) ?_
    refine jr_icmp_ne (tgt := 26) hg dX5_wrongTurn_21 (by decide) (fun h21 => ?_) (fun h => absurd h (nI_ne_m1 (by omega)))
    refine jr_iload_n hg 1 rfl rfl dX5_wrongTurn_26 ?_
    refine jr_aload_n hg 2 rfl rfl dX5_wrongTurn_27 ?_
    refine jr_iload_n hg 1 rfl rfl dX5_wrongTurn_28 ?_
    refine jr_iload_n hg 0 rfl rfl dX5_wrongTurn_29 ?_
    refine jr_iload_n hg 3 rfl rfl dX5_wrongTurn_30 ?_
    refine jr_cV3v hg lk_X5_55 (hI 5 (by decide)) rfl rfl (by decide) (by decide) (Nat.le_of_ble_eq_true rfl) dX5_wrongTurn_31 (c_X5_sideOf hI hq1.1 hW (by omega) hf1.1 (by omega)) ?_
    refine jr_iconst hg (-1) dX5_wrongTurn_34 (by decide) ?_
    refine jr_ixor hg dX5_wrongTurn_35 ?_
    refine jr_iand hg dX5_wrongTurn_36 ?_
    refine jr_top (zother (b := (s 16 k).testBit t) (by omega) (hq k hf1.1)) ?_
    refine jr_istore hg dX5_wrongTurn_37 (by decide) rfl ?_
    refine jr_iconst hg (nI 0) dX5_wrongTurn_39 (by decide) ?_
    refine jr_istore hg dX5_wrongTurn_40 (by decide) rfl ?_
    have hso : 1 ≤ (if (s 16 k).testBit t then z_no (2 ^ s 0 6 - 1) (s 16 k) else (2 ^ s 0 6 - 1) &&& s 16 k) ∧ (if (s 16 k).testBit t then z_no (2 ^ s 0 6 - 1) (s 16 k) else (2 ^ s 0 6 - 1) &&& s 16 k) < 2 ^ s 0 6 := by
      have sp := zsplit (2 ^ s 0 6 - 1) (by omega) (s 16 k) (hq k hf1.1)
      split; exact ⟨by omega, by omega⟩; exact ⟨by omega, by omega⟩
    have lp42 : ∀ j : Nat, j ≤ 8 → ∀ L, 1 ≤ L → L < 2 ^ s 0 6 → z_wf (s 15) (s 16) t (8 - j) L = z_wt (s 15) (s 16) (s 0 6) t → mm_J g E mX5_wrongTurn (fun v M' => v = some (.int (nI (z_wt (s 15) (s 16) (s 0 6) t))) ∧ zX_q s M' ∧ mm_same [5, 27, 28, 29] M M') 42 [(0, .ref (E.1 5)), (1, .int (nI t)), (4, .int (nI L)), (5, .int (nI j))] [] (M') := by
      refine jr_up (S := fun j => ∀ L, 1 ≤ L → L < 2 ^ s 0 6 → z_wf (s 15) (s 16) t (8 - j) L = z_wt (s 15) (s 16) (s 0 6) t → mm_J g E mX5_wrongTurn (fun v M' => v = some (.int (nI (z_wt (s 15) (s 16) (s 0 6) t))) ∧ zX_q s M' ∧ mm_same [5, 27, 28, 29] M M') 42 [(0, .ref (E.1 5)), (1, .int (nI t)), (4, .int (nI L)), (5, .int (nI j))] [] (M')) (n := 8) ?_ ?_
      · intro L hL1 hL2 hres
        show mm_J g E mX5_wrongTurn (fun v M' => v = some (.int (nI (z_wt (s 15) (s 16) (s 0 6) t))) ∧ zX_q s M' ∧ mm_same [5, 27, 28, 29] M M') 42 [(0, .ref (E.1 5)), (1, .int (nI t)), (4, .int (nI L)), (5, .int (nI (8)))] [] (M')
        refine jr_iload hg 3 rfl dX5_wrongTurn_42 ?_
        refine jr_bipush hg (nI 8) dX5_wrongTurn_44 (by decide) ?_
        refine jr_icmp_geN (tgt := 80) hg dX5_wrongTurn_46 (by decide) (by omega) (by omega) (fun h46 => ?_) (fun h => by omega)
        refine jr_iload hg 2 rfl dX5_wrongTurn_80 ?_
        exact jr_iret hg rfl dX5_wrongTurn_82 (⟨by first | (rw [← hres]; done) | (rw [← hres]; rfl), zX_q1_q hq1, hs⟩)
      · intro j hj ih L hL1 hL2 hres
        show mm_J g E mX5_wrongTurn (fun v M' => v = some (.int (nI (z_wt (s 15) (s 16) (s 0 6) t))) ∧ zX_q s M' ∧ mm_same [5, 27, 28, 29] M M') 42 [(0, .ref (E.1 5)), (1, .int (nI t)), (4, .int (nI L)), (5, .int (nI j))] [] (M')
        refine jr_iload hg 3 rfl dX5_wrongTurn_42 ?_
        refine jr_bipush hg (nI 8) dX5_wrongTurn_44 (by decide) ?_
        refine jr_icmp_geN (tgt := 80) hg dX5_wrongTurn_46 (by decide) (by omega) (by omega) (fun h => by omega) (fun h46 => ?_)
        have ha := hq1.2.2 L hL1 hL2
        have hf0 := z_e_first (w := s 15) (S := L) (by omega) hq
        rw [show 8 - j = (8 - (j + 1)) + 1 by omega, z_wf] at hres
        generalize hF : (z_e (s 15) (s 16) L).2.1 = F at hf0 hres ha
        rcases F with _ | k
        · rw [if_pos rfl] at hres
          refine jr_aload_n hg 0 rfl rfl dX5_wrongTurn_49 ?_
          refine jr_iload hg 2 rfl dX5_wrongTurn_50 ?_
          refine jr_cV1v hg lk_X5_49 (hI 5 (by decide)) rfl rfl (by decide) (by decide) (Nat.le_of_ble_eq_true rfl) dX5_wrongTurn_52 (c_X5_plannedFirst hI (by omega) ha.2.1) ?_
          refine jr_iconst hg (-1) dX5_wrongTurn_55 (by decide) ?_
          refine jr_icmp_eq (tgt := 80) hg dX5_wrongTurn_56 (by decide) (fun h56 => ?_) (fun h => absurd rfl h)
          refine jr_iload hg 2 rfl dX5_wrongTurn_80 ?_
          exact jr_iret hg rfl dX5_wrongTurn_82 (⟨by first | (rw [← hres]; done) | (rw [← hres]; rfl), zX_q1_q hq1, hs⟩)
        · rw [if_neg (Nat.succ_ne_zero k), Nat.add_sub_cancel] at hres
          have hf1 := hf0 (Nat.succ_ne_zero k)
          rw [Nat.add_sub_cancel] at hf1
          rw [zmv_s] at ha
          have sp := zsplit L (by omega) (s 16 k) (hq k hf1.1)
          have hsi : z_si (s 16) L k t ≠ 0 ∧ z_si (s 16) L k t ≤ L := by rw [z_si]; split; exact ⟨hf1.2.1, by omega⟩; exact ⟨hf1.2.2, by omega⟩
          refine jr_aload_n hg 0 rfl rfl dX5_wrongTurn_49 ?_
          refine jr_iload hg 2 rfl dX5_wrongTurn_50 ?_
          refine jr_cV1v hg lk_X5_49 (hI 5 (by decide)) rfl rfl (by decide) (by decide) (Nat.le_of_ble_eq_true rfl) dX5_wrongTurn_52 (c_X5_plannedFirst hI (by omega) ha.2.1) ?_
          refine jr_iconst hg (-1) dX5_wrongTurn_55 (by decide) ?_
          refine jr_icmp_eq (tgt := 80) hg dX5_wrongTurn_56 (by decide) (fun h => absurd h (nI_ne_m1 (by omega))) (fun h56 => ?_)
          refine jr_aload_n hg 0 rfl rfl dX5_wrongTurn_59 ?_
          refine jr_iload hg 2 rfl dX5_wrongTurn_60 ?_
          refine jr_aload_n hg 0 rfl rfl dX5_wrongTurn_62 ?_
          refine jr_iload hg 2 rfl dX5_wrongTurn_63 ?_
          refine jr_cV1v hg lk_X5_49 (hI 5 (by decide)) rfl rfl (by decide) (by decide) (Nat.le_of_ble_eq_true rfl) dX5_wrongTurn_65 (c_X5_plannedFirst hI (by omega) ha.2.1) ?_
          refine jr_iload_n hg 1 rfl rfl dX5_wrongTurn_68 ?_
          refine jr_cV3v hg lk_X5_55 (hI 5 (by decide)) rfl rfl (by decide) (by decide) (Nat.le_of_ble_eq_true rfl) dX5_wrongTurn_69 (c_X5_sideOf hI hq1.1 hW (by omega) hf1.1 (by omega)) ?_
          refine jr_istore hg dX5_wrongTurn_72 (by decide) rfl ?_
          refine jr_iinc hg 3 rfl (nI (_ + 1)) (nI_1 _) dX5_wrongTurn_74 (by decide) rfl ?_
          refine jr_goto (tgt := 42) hg dX5_wrongTurn_77 (by decide) ?_
          exact jr_lv [2, 3, 1, 0] rfl (ih (z_si (s 16) L k t) (by omega) (by omega) hres)
    exact jr_lv [4, 5, 1, 0] rfl (lp42 0 (by omega) (if (s 16 k).testBit t then z_no (2 ^ s 0 6 - 1) (s 16 k) else (2 ^ s 0 6 - 1) &&& s 16 k) hso.1 hso.2 hwt.symm)

set_option maxRecDepth 100000 in
theorem c_X5_changeWeight {E : mm_E} (hI : mm_FX E) {M : mm_M} {s : zS} (hR : zX_q0 s M) (hW : zW_q s) {t : Nat} (ht : t < s 0 6) {v : Int32} : mm_Cal E mX5_changeWeight [.ref (E.1 5), .int (nI t), .int v] M (ret1 (.int (nI (s 15 t))) (mm_si (mm_si M 25 (upd (M.1 25) t v)) 5 (upd (M.1 5) 6 (nI 0)))) := by
  have hn2 := hW.1
  have hn8 := hW.2.1
  refine jr_entry RX5 (by decide +kernel) (Nat.le_of_ble_eq_true rfl) (fun g hg => ?_)
  refine jr_lv (lv' := [(0, .ref (E.1 5)), (1, .int (nI t)), (2, .int v)]) [0, 1, 2] rfl ?_
  refine jr_aload_n hg 0 rfl rfl dX5_changeWeight_0 ?_
  refine jr_iload_n hg 1 rfl rfl dX5_changeWeight_1 ?_
  refine jr_cV1v hg lk_X5_39 (hI 5 (by decide)) rfl rfl (by decide) (by decide) (Nat.le_of_ble_eq_true rfl) dX5_changeWeight_2 (c_X5_hasThing_yes hI hR hW ht) ?_
  refine jr_if_neN (tgt := 12) hg dX5_changeWeight_5 (by decide) (by omega) (fun h5 => ?_) (fun h => by omega)
  refine jr_aload_n hg 0 rfl rfl dX5_changeWeight_12 ?_
  refine gf_X5_11 hg (hI 5 (by decide)) dX5_changeWeight_13 ?_
  refine jr_iload_n hg 1 rfl rfl dX5_changeWeight_16 ?_
  refine jr_ialdN hg (n := 8) (by omega) (by decide) (hI 25 (by decide)) (ac_25 _ _) dX5_changeWeight_17 ?_
  refine jr_top (hR.2.1 _ (by omega)) ?_
  refine jr_istore_n hg dX5_changeWeight_18 rfl (by decide) rfl ?_
  refine jr_aload_n hg 1 rfl rfl dX5_changeWeight_19 ?_
  refine gf_X5_11 hg (hI 5 (by decide)) dX5_changeWeight_20 ?_
  refine jr_iload_n hg 2 rfl rfl dX5_changeWeight_23 ?_
  refine jr_iload_n hg 3 rfl rfl dX5_changeWeight_24 ?_
  refine jr_iastN hg (n := 8) (by omega) (by decide) (hI 25 (by decide)) (ac_25) dX5_changeWeight_25 ?_
  refine jr_aload_n hg 1 rfl rfl dX5_changeWeight_26 ?_
  refine jr_iconst hg (nI 0) dX5_changeWeight_27 (by decide) ?_
  refine pf_X5_35 hg (by first | exact Or.inl rfl | exact Or.inr rfl | exact z01 _) (hI 5 (by decide)) dX5_changeWeight_28 ?_
  refine jr_iload_n hg 0 rfl rfl dX5_changeWeight_31 ?_
  exact jr_iret hg rfl dX5_changeWeight_32 (⟨rfl, rfl⟩)

set_option maxRecDepth 100000 in
theorem c_X5_changeSet {E : mm_E} (hI : mm_FX E) {M : mm_M} {s : zS} (hR : zX_q0 s M) (hW : zW_q s) {k : Nat} (hk : k < 6) {v : Int32} : mm_Cal E mX5_changeSet [.ref (E.1 5), .int (nI k), .int v] M (ret1 (.int (nI (s 16 k))) (mm_si (mm_si M 26 (upd (M.1 26) k v)) 5 (upd (M.1 5) 6 (nI 0)))) := by
  have hn2 := hW.1
  have hn8 := hW.2.1
  refine jr_entry RX5 (by decide +kernel) (Nat.le_of_ble_eq_true rfl) (fun g hg => ?_)
  refine jr_lv (lv' := [(0, .ref (E.1 5)), (1, .int (nI k)), (2, .int v)]) [0, 1, 2] rfl ?_
  refine jr_iload_n hg 1 rfl rfl dX5_changeSet_0 ?_
  refine jr_if_ltN hg dX5_changeSet_1 (tgt := 13) (by decide) (by omega) ?_
  refine jr_iload_n hg 1 rfl rfl dX5_changeSet_4 ?_
  refine jr_aload_n hg 0 rfl rfl dX5_changeSet_5 ?_
  refine gf_X5_15 hg (hI 5 (by decide)) dX5_changeSet_6 ?_
  refine jr_alen hg (t0 := 0) (hI 26 (by decide)) (ac_26 _ _) rfl rfl dX5_changeSet_9 ?_
  refine jr_icmp_ltN (tgt := 17) hg dX5_changeSet_10 (by decide) (by omega) (by omega) (fun h10 => ?_) (fun h => by omega)
  refine jr_aload_n hg 0 rfl rfl dX5_changeSet_17 ?_
  refine gf_X5_15 hg (hI 5 (by decide)) dX5_changeSet_18 ?_
  refine jr_iload_n hg 1 rfl rfl dX5_changeSet_21 ?_
  refine jr_ialdN hg (n := 6) (by omega) (by decide) (hI 26 (by decide)) (ac_26 _ _) dX5_changeSet_22 ?_
  refine jr_top (hR.2.2 _ (by omega)) ?_
  refine jr_istore_n hg dX5_changeSet_23 rfl (by decide) rfl ?_
  refine jr_aload_n hg 1 rfl rfl dX5_changeSet_24 ?_
  refine gf_X5_15 hg (hI 5 (by decide)) dX5_changeSet_25 ?_
  refine jr_iload_n hg 2 rfl rfl dX5_changeSet_28 ?_
  refine jr_iload_n hg 3 rfl rfl dX5_changeSet_29 ?_
  refine jr_iastN hg (n := 6) (by omega) (by decide) (hI 26 (by decide)) (ac_26) dX5_changeSet_30 ?_
  refine jr_aload_n hg 1 rfl rfl dX5_changeSet_31 ?_
  refine jr_iconst hg (nI 0) dX5_changeSet_32 (by decide) ?_
  refine pf_X5_35 hg (by first | exact Or.inl rfl | exact Or.inr rfl | exact z01 _) (hI 5 (by decide)) dX5_changeSet_33 ?_
  refine jr_iload_n hg 0 rfl rfl dX5_changeSet_36 ?_
  exact jr_iret hg rfl dX5_changeSet_37 (⟨rfl, rfl⟩)

set_option maxRecDepth 100000 in
theorem c_X5_restart {E : mm_E} (hI : ∀ c, c ∈ [5, 25, 26, 27, 28, 29] → c ∈ E.2.1) {M : mm_M} {n : Nat} : mm_Cal E mX5_restart [.ref (E.1 5), .int (nI n)] M (fun v M' => v = some (.int (nI n)) ∧ M'.1 5 5 = nI n ∧ M'.1 5 6 = nI 0 ∧ (∀ t, t < 8 → M'.1 25 t = nI 1) ∧ (∀ k, k < 6 → M'.1 26 k = nI 0) ∧ mm_same [5, 25, 26] M M') := by
  refine jr_entry RX5 (by decide +kernel) (Nat.le_of_ble_eq_true rfl) (fun g hg => ?_)
  refine jr_lv (lv' := [(0, .ref (E.1 5)), (1, .int (nI n))]) [0, 1] rfl ?_
  refine jr_aload_n hg 0 rfl rfl dX5_restart_0 ?_
  refine jr_iload_n hg 1 rfl rfl dX5_restart_1 ?_
  refine pf_X5_31 hg (hI 5 (by decide)) dX5_restart_2 ?_
  refine jr_iconst hg (nI 0) dX5_restart_5 (by decide) ?_
  refine jr_istore_n hg dX5_restart_6 rfl (by decide) rfl ?_
  have lp7 : ∀ t : Nat, t ≤ 8 → ∀ M1, M1.1 5 5 = nI n → (∀ j, j < t → M1.1 25 j = nI 1) → mm_same [5, 25, 26] M M1 → mm_J g E mX5_restart (fun v M' => v = some (.int (nI n)) ∧ M'.1 5 5 = nI n ∧ M'.1 5 6 = nI 0 ∧ (∀ t, t < 8 → M'.1 25 t = nI 1) ∧ (∀ k, k < 6 → M'.1 26 k = nI 0) ∧ mm_same [5, 25, 26] M M') 7 [(0, .ref (E.1 5)), (1, .int (nI n)), (2, .int (nI t))] [] (M1) := by
    refine jr_up (S := fun t => ∀ M1, M1.1 5 5 = nI n → (∀ j, j < t → M1.1 25 j = nI 1) → mm_same [5, 25, 26] M M1 → mm_J g E mX5_restart (fun v M' => v = some (.int (nI n)) ∧ M'.1 5 5 = nI n ∧ M'.1 5 6 = nI 0 ∧ (∀ t, t < 8 → M'.1 25 t = nI 1) ∧ (∀ k, k < 6 → M'.1 26 k = nI 0) ∧ mm_same [5, 25, 26] M M') 7 [(0, .ref (E.1 5)), (1, .int (nI n)), (2, .int (nI t))] [] (M1)) (n := 8) ?_ ?_
    · intro M1 h5 hw hs
      show mm_J g E mX5_restart (fun v M' => v = some (.int (nI n)) ∧ M'.1 5 5 = nI n ∧ M'.1 5 6 = nI 0 ∧ (∀ t, t < 8 → M'.1 25 t = nI 1) ∧ (∀ k, k < 6 → M'.1 26 k = nI 0) ∧ mm_same [5, 25, 26] M M') 7 [(0, .ref (E.1 5)), (1, .int (nI n)), (2, .int (nI (8)))] [] (M1)
      refine jr_iload_n hg 2 rfl rfl dX5_restart_7 ?_
      refine jr_aload_n hg 0 rfl rfl dX5_restart_8 ?_
      refine gf_X5_11 hg (hI 5 (by decide)) dX5_restart_9 ?_
      refine jr_alen hg (t0 := 0) (hI 25 (by decide)) (ac_25 _ _) rfl rfl dX5_restart_12 ?_
      refine jr_icmp_geN (tgt := 29) hg dX5_restart_13 (by decide) (by omega) (by omega) (fun h13 => ?_) (fun h => by omega)
      refine jr_iconst hg (nI 0) dX5_restart_29 (by decide) ?_
      refine jr_istore_n hg dX5_restart_30 rfl (by decide) rfl ?_
      have lp31 : ∀ k : Nat, k ≤ 6 → ∀ M2, M2.1 5 5 = nI n → (∀ j, j < 8 → M2.1 25 j = nI 1) → (∀ j, j < k → M2.1 26 j = nI 0) → mm_same [5, 25, 26] M M2 → mm_J g E mX5_restart (fun v M' => v = some (.int (nI n)) ∧ M'.1 5 5 = nI n ∧ M'.1 5 6 = nI 0 ∧ (∀ t, t < 8 → M'.1 25 t = nI 1) ∧ (∀ k, k < 6 → M'.1 26 k = nI 0) ∧ mm_same [5, 25, 26] M M') 31 [(0, .ref (E.1 5)), (1, .int (nI n)), (2, .int (nI k))] [] (M2) := by
        refine jr_up (S := fun k => ∀ M2, M2.1 5 5 = nI n → (∀ j, j < 8 → M2.1 25 j = nI 1) → (∀ j, j < k → M2.1 26 j = nI 0) → mm_same [5, 25, 26] M M2 → mm_J g E mX5_restart (fun v M' => v = some (.int (nI n)) ∧ M'.1 5 5 = nI n ∧ M'.1 5 6 = nI 0 ∧ (∀ t, t < 8 → M'.1 25 t = nI 1) ∧ (∀ k, k < 6 → M'.1 26 k = nI 0) ∧ mm_same [5, 25, 26] M M') 31 [(0, .ref (E.1 5)), (1, .int (nI n)), (2, .int (nI k))] [] (M2)) (n := 6) ?_ ?_
        · intro M2 h5 hw hk2 hs
          show mm_J g E mX5_restart (fun v M' => v = some (.int (nI n)) ∧ M'.1 5 5 = nI n ∧ M'.1 5 6 = nI 0 ∧ (∀ t, t < 8 → M'.1 25 t = nI 1) ∧ (∀ k, k < 6 → M'.1 26 k = nI 0) ∧ mm_same [5, 25, 26] M M') 31 [(0, .ref (E.1 5)), (1, .int (nI n)), (2, .int (nI (6)))] [] (M2)
          refine jr_iload_n hg 2 rfl rfl dX5_restart_31 ?_
          refine jr_aload_n hg 0 rfl rfl dX5_restart_32 ?_
          refine gf_X5_15 hg (hI 5 (by decide)) dX5_restart_33 ?_
          refine jr_alen hg (t0 := 0) (hI 26 (by decide)) (ac_26 _ _) rfl rfl dX5_restart_36 ?_
          refine jr_icmp_geN (tgt := 53) hg dX5_restart_37 (by decide) (by omega) (by omega) (fun h37 => ?_) (fun h => by omega)
          refine jr_aload_n hg 0 rfl rfl dX5_restart_53 ?_
          refine jr_iconst hg (nI 0) dX5_restart_54 (by decide) ?_
          refine pf_X5_35 hg (by first | exact Or.inl rfl | exact Or.inr rfl | exact z01 _) (hI 5 (by decide)) dX5_restart_55 ?_
          refine jr_aload_n hg 0 rfl rfl dX5_restart_58 ?_
          refine gf_X5_31 hg (hI 5 (by decide)) dX5_restart_59 ?_
          refine jr_top (h5) ?_
          exact jr_iret hg rfl dX5_restart_62 (⟨rfl, h5, rfl, hw, hk2, hs.si (by decide)⟩)
        · intro k hk ih2 M2 h5 hw hk2 hs
          show mm_J g E mX5_restart (fun v M' => v = some (.int (nI n)) ∧ M'.1 5 5 = nI n ∧ M'.1 5 6 = nI 0 ∧ (∀ t, t < 8 → M'.1 25 t = nI 1) ∧ (∀ k, k < 6 → M'.1 26 k = nI 0) ∧ mm_same [5, 25, 26] M M') 31 [(0, .ref (E.1 5)), (1, .int (nI n)), (2, .int (nI k))] [] (M2)
          refine jr_iload_n hg 2 rfl rfl dX5_restart_31 ?_
          refine jr_aload_n hg 0 rfl rfl dX5_restart_32 ?_
          refine gf_X5_15 hg (hI 5 (by decide)) dX5_restart_33 ?_
          refine jr_alen hg (t0 := 0) (hI 26 (by decide)) (ac_26 _ _) rfl rfl dX5_restart_36 ?_
          refine jr_icmp_geN (tgt := 53) hg dX5_restart_37 (by decide) (by omega) (by omega) (fun h => by omega) (fun h37 => ?_)
          refine jr_aload_n hg 0 rfl rfl dX5_restart_40 ?_
          refine gf_X5_15 hg (hI 5 (by decide)) dX5_restart_41 ?_
          refine jr_iload_n hg 2 rfl rfl dX5_restart_44 ?_
          refine jr_iconst hg (nI 0) dX5_restart_45 (by decide) ?_
          refine jr_iastN hg (n := 6) (by omega) (by decide) (hI 26 (by decide)) (ac_26) dX5_restart_46 ?_
          refine jr_iinc hg 2 rfl (nI (_ + 1)) (nI_1 _) dX5_restart_47 (by decide) rfl ?_
          refine jr_goto (tgt := 31) hg dX5_restart_50 (by decide) ?_
          exact jr_lv [1, 2, 0] rfl (ih2 (mm_si M2 26 (upd (M2.1 26) k (nI 0))) h5 hw (fun j hj => by show upd (M2.1 26) k (nI 0) j = nI 0; by_cases e : j = k; rw [e, upd_s]; rw [upd_n e]; exact hk2 j (by omega)) (hs.si (by decide)))
      exact jr_lv [1, 2, 0] rfl (lp31 0 (by omega) M1 h5 hw (fun j hj => by omega) hs)
    · intro t ht ih M1 h5 hw hs
      show mm_J g E mX5_restart (fun v M' => v = some (.int (nI n)) ∧ M'.1 5 5 = nI n ∧ M'.1 5 6 = nI 0 ∧ (∀ t, t < 8 → M'.1 25 t = nI 1) ∧ (∀ k, k < 6 → M'.1 26 k = nI 0) ∧ mm_same [5, 25, 26] M M') 7 [(0, .ref (E.1 5)), (1, .int (nI n)), (2, .int (nI t))] [] (M1)
      refine jr_iload_n hg 2 rfl rfl dX5_restart_7 ?_
      refine jr_aload_n hg 0 rfl rfl dX5_restart_8 ?_
      refine gf_X5_11 hg (hI 5 (by decide)) dX5_restart_9 ?_
      refine jr_alen hg (t0 := 0) (hI 25 (by decide)) (ac_25 _ _) rfl rfl dX5_restart_12 ?_
      refine jr_icmp_geN (tgt := 29) hg dX5_restart_13 (by decide) (by omega) (by omega) (fun h => by omega) (fun h13 => ?_)
      refine jr_aload_n hg 0 rfl rfl dX5_restart_16 ?_
      refine gf_X5_11 hg (hI 5 (by decide)) dX5_restart_17 ?_
      refine jr_iload_n hg 2 rfl rfl dX5_restart_20 ?_
      refine jr_iconst hg (nI 1) dX5_restart_21 (by decide) ?_
      refine jr_iastN hg (n := 8) (by omega) (by decide) (hI 25 (by decide)) (ac_25) dX5_restart_22 ?_
      refine jr_iinc hg 2 rfl (nI (_ + 1)) (nI_1 _) dX5_restart_23 (by decide) rfl ?_
      refine jr_goto (tgt := 7) hg dX5_restart_26 (by decide) ?_
      exact jr_lv [1, 2, 0] rfl (ih (mm_si M1 25 (upd (M1.1 25) t (nI 1))) h5 (fun j hj => by show upd (M1.1 25) t (nI 1) j = nI 1; by_cases e : j = t; rw [e, upd_s]; rw [upd_n e]; exact hw j (by omega)) (hs.si (by decide)))
  exact jr_lv [1, 2, 0] rfl (lp7 0 (by omega) _ rfl (fun j hj => by omega) (mm_same.rf.si (by decide)))
