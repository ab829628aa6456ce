set_option maxRecDepth 100000 in
theorem c_X7_isIn {E : mm_E} (hI : mm_FX E) {M : mm_M} {S t : Nat} (hS : S < 2 ^ 31) (ht : t < 32) : mm_Cal E mX7_isIn [.int (nI S), .int (nI t)] M (ret1 (.int (nI (S.testBit t).toNat)) M) := by
  refine jr_entry RX7 (by decide +kernel) (Nat.le_of_ble_eq_true rfl) (fun g hg => ?_)
  refine jr_lv (lv' := [(0, .int (nI S)), (1, .int (nI t))]) [0, 1] rfl ?_
  refine jr_iload_n hg 0 rfl rfl dX7_isIn_0 ?_
  refine jr_iload_n hg 1 rfl rfl dX7_isIn_1 ?_
  refine jr_iushr hg _ dX7_isIn_2 rfl ?_
  refine jr_top (nI_ushr (by omega) (by omega)) ?_
  refine jr_iconst hg (nI 1) dX7_isIn_3 (by decide) ?_
  refine jr_iand hg dX7_isIn_4 ?_
  refine jr_top (nI_and1 (Nat.lt_of_le_of_lt (Nat.div_le_self _ _) (by omega))) ?_
  refine jr_iconst hg (nI 1) dX7_isIn_5 (by decide) ?_
  refine jr_icmp_neN (tgt := 13) hg dX7_isIn_6 (by decide) (by omega) (by omega) (fun h6 => ?_) (fun h6 => ?_)
  · refine jr_iconst hg (nI 0) dX7_isIn_13 (by decide) ?_
    exact jr_zret hg rfl (by first | exact Or.inl rfl | exact Or.inr rfl | exact z01 _) dX7_isIn_14 (⟨by rw [zbit, decide_eq_false h6]; rfl, rfl⟩)
  · refine jr_iconst hg (nI 1) dX7_isIn_9 (by decide) ?_
    refine jr_goto (tgt := 14) hg dX7_isIn_10 (by decide) ?_
    exact jr_zret hg rfl (by first | exact Or.inl rfl | exact Or.inr rfl | exact z01 _) dX7_isIn_14 (⟨by rw [zbit, decide_eq_true h6]; rfl, rfl⟩)

set_option maxRecDepth 100000 in
theorem c_X7_isPart {E : mm_E} (hI : mm_FX E) {M : mm_M} (x : Int32) {n : Nat} (hn : n ≤ 8) : mm_Cal E mX7_isPart [.int x, .int (nI n)] M (ret1 (.int (nI (zin x (2 ^ n)).toNat)) M) := by
  refine jr_entry RX7 (by decide +kernel) (Nat.le_of_ble_eq_true rfl) (fun g hg => ?_)
  refine jr_lv (lv' := [(0, .int x), (1, .int (nI n))]) [0, 1] rfl ?_
  refine jr_iload_n hg 0 rfl rfl dX7_isPart_0 ?_
  refine jr_iload_n hg 1 rfl rfl dX7_isPart_1 ?_
  refine jr_iushr hg _ dX7_isPart_2 rfl ?_
  refine jr_if_ne (tgt := 10) hg dX7_isPart_3 (by decide) (fun h3 => ?_) (fun h3 => ?_)
  · refine jr_iconst hg (nI 0) dX7_isPart_10 (by decide) ?_
    exact jr_zret hg rfl (by first | exact Or.inl rfl | exact Or.inr rfl | exact z01 _) dX7_isPart_11 (⟨by rw [show zin x (2 ^ n) = false by cases e : zin x (2 ^ n); rfl; exact absurd ((zpart hn).mpr e) h3]; rfl, rfl⟩)
  · refine jr_iconst hg (nI 1) dX7_isPart_6 (by decide) ?_
    refine jr_goto (tgt := 11) hg dX7_isPart_7 (by decide) ?_
    exact jr_zret hg rfl (by first | exact Or.inl rfl | exact Or.inr rfl | exact z01 _) dX7_isPart_11 (⟨by rw [(zpart hn).mp h3]; rfl, rfl⟩)

theorem zX_p_c {s : zS} {M M1 : mm_M} (h : ∀ d, d ∈ [4, 20, 21, 22, 23, 24] → M1.1 d = M.1 d) (q : zX_p s M) : zX_p s M1 := by
  simp only [zX_p, h 4 (by decide), h 20 (by decide), h 21 (by decide), h 22 (by decide), h 23 (by decide), h 24 (by decide)]
  exact q

theorem zX_l_c {s : zS} {M M1 : mm_M} (h : ∀ d, d ∈ [2, 11] → M1.1 d = M.1 d) (q : zX_l s M) : zX_l s M1 := by
  simp only [zX_l, h 2 (by decide), h 11 (by decide)]
  exact q

theorem zX_k_c {s : zS} {M M1 : mm_M} (h : ∀ d, d ∈ [3, 12, 13, 14, 15, 16, 17, 18, 19] → M1.1 d = M.1 d) (q : zX_k s M) : zX_k s M1 := by
  simp only [zX_k, h 3 (by decide), h 12 (by decide), h 13 (by decide), h 14 (by decide), h 15 (by decide), h 16 (by decide), h 17 (by decide), h 18 (by decide), h 19 (by decide)]
  exact q

theorem zX_w_c {s : zS} {M M1 : mm_M} (h : ∀ d, d ∈ [8] → M1.1 d = M.1 d) (q : zX_w s M) : zX_w s M1 := by
  simp only [zX_w, h 8 (by decide)]
  exact q

theorem zX_t_c {s : zS} {M M1 : mm_M} (h : ∀ d, d ∈ [1, 10] → M1.1 d = M.1 d) (q : zX_t s M) : zX_t s M1 := by
  simp only [zX_t, h 1 (by decide), h 10 (by decide)]
  exact q

theorem zX_o_c {s : zS} {M M1 : mm_M} (h : ∀ d, d ∈ [6, 30, 31, 32] → M1.1 d = M.1 d) (q : zX_o s M) : zX_o s M1 := by
  simp only [zX_o, h 6 (by decide), h 30 (by decide), h 31 (by decide), h 32 (by decide)]
  exact q

theorem zX_q_c {s : zS} {M M1 : mm_M} (h : ∀ d, d ∈ [5, 25, 26, 27, 28, 29] → M1.1 d = M.1 d) (q : zX_q s M) : zX_q s M1 := by
  simp only [zX_q, h 5 (by decide), h 25 (by decide), h 26 (by decide), h 27 (by decide), h 28 (by decide), h 29 (by decide)]
  exact q

def zseed (s : zS) (d : Nat) : zS := zset s 0 (zup (s 0) 3 d)
def zlook (s : zS) (l p : Nat) : zS := zseed (zaddk s l p (z_said s l p (s 0 3)).1) (z_said s l p (s 0 3)).2
abbrev zLC : List Nat := [0, 3, 12, 13, 14, 15, 16, 17, 18, 19]
theorem mm_same.at {cs : List Nat} {M M1 : mm_M} (h : mm_same cs M M1) {ds : List Nat} (hd : ∀ c, c ∈ ds → c ∉ cs) : ∀ d, d ∈ ds → M1.1 d = M.1 d := fun d q => (h d (hd d q)).1
theorem zX_look {s : zS} {M M1 : mm_M} {l p : Nat} (h : zX s M) (hk : zX_k (zaddk s l p (z_said s l p (s 0 3)).1) M1) (hd : M1.2 0 0 = lN (z_said s l p (s 0 3)).2) (hs : mm_same zLC M M1) : zX (zlook s l p) M1 := by
  obtain ⟨a, b, -, d, e, -, f, g⟩ := h
  refine ⟨?_, ?_, hk, ?_, ?_, hd, ?_, ?_⟩
  · exact zX_p_c (hs.at (by decide)) a
  · exact zX_l_c (hs.at (by decide)) b
  · exact zX_w_c (hs.at (by decide)) d
  · exact zX_t_c (hs.at (by decide)) e
  · exact zX_o_c (hs.at (by decide)) f
  · exact zX_q_c (hs.at (by decide)) g
theorem zW_look {s : zS} {l p : Nat} (h : zW s) (h1 : s 0 2 < 200) (hl : l < s 0 1) (hp : p < s 0 0) (h0 : z_an s l p = 0) : zW (zlook s l p) := by
  have q := z_said_le h.1 (l := l) hp h.2.2.2.2.2.1
  exact ⟨h.1, h.2.1, zW_addk h.2.2.1 h1 hl hp q.1 h0, h.2.2.2.1, h.2.2.2.2.1, q.2, h.2.2.2.2.2.2.1, h.2.2.2.2.2.2.2⟩
def z_tt (s : zS) (S r : Nat) : Nat → zS
  | 0 => s
  | l + 1 => if ((S.testBit l && decide (z_tt s S r l 0 2 < 200)) && z_st (z_tt s S r l) l) && z_nx (z_tt s S r l) l r (z_tt s S r l 0 0) != 0 then zlook (z_tt s S r l) l (z_nx (z_tt s S r l) l r (z_tt s S r l 0 0) - 1) else z_tt s S r l
def z_ev (s : zS) (S r : Nat) : Nat → zS
  | 0 => s
  | n + 1 => z_tt (z_ev s S r n) S r (z_ev s S r n 0 1)
/-- the picture that is shown is open -/
theorem z_nx_ok {s : zS} {l r n : Nat} (h : z_nx s l r n ≠ 0) : z_an s l (z_nx s l r n - 1) = 0 ∧ z_nx s l r n - 1 < n := by
  induction n with
  | zero => exact absurd rfl h
  | succ n ih =>
    rw [z_nx] at h ⊢
    by_cases q : ((!z_dn s n && z_an s l n == 0) && (z_nx s l r n == 0 || z_sb s n (z_nx s l r n - 1) r)) = true
    · rw [if_pos q] at h ⊢
      simp only [Bool.and_eq_true, beq_iff_eq] at q
      exact ⟨q.1.2, by omega⟩
    · rw [if_neg q] at h ⊢
      have := ih h
      exact ⟨this.1, by omega⟩
theorem z_tt_keep (s : zS) (S r l : Nat) : z_tt s S r l 0 0 = s 0 0 ∧ z_tt s S r l 0 1 = s 0 1 ∧ s 0 2 ≤ z_tt s S r l 0 2 := by
  induction l with
  | zero => exact ⟨rfl, rfl, Nat.le_refl _⟩
  | succ l ih =>
    rw [z_tt]; split
    · exact ⟨ih.1, ih.2.1, Nat.le_trans ih.2.2 (Nat.le_succ _)⟩
    · exact ih
theorem zW_tt {s : zS} (h : zW s) (S r : Nat) : ∀ l, l ≤ s 0 1 → zW (z_tt s S r l) := by
  intro l
  induction l with
  | zero => intro _; exact h
  | succ l ih =>
    intro hl
    have k := z_tt_keep s S r l
    have ih := ih (by omega)
    rw [z_tt]; split
    · rename_i q
      simp only [Bool.and_eq_true, decide_eq_true_eq, bne_iff_ne] at q
      have o := z_nx_ok q.2
      exact zW_look ih q.1.1.2 (by rw [k.2.1]; omega) o.2 o.1
    · exact ih
theorem z_ev_keep (s : zS) (S r n : Nat) : z_ev s S r n 0 0 = s 0 0 ∧ z_ev s S r n 0 1 = s 0 1 ∧ s 0 2 ≤ z_ev s S r n 0 2 := by
  induction n with
  | zero => exact ⟨rfl, rfl, Nat.le_refl _⟩
  | succ n ih =>
    have k := z_tt_keep (z_ev s S r n) S r (z_ev s S r n 0 1)
    exact ⟨k.1.trans ih.1, k.2.1.trans ih.2.1, Nat.le_trans ih.2.2 k.2.2⟩
theorem zW_ev {s : zS} (h : zW s) (S r n : Nat) : zW (z_ev s S r n) := by
  induction n with
  | zero => exact h
  | succ n ih => exact zW_tt ih S r _ (Nat.le_refl _)

set_option maxRecDepth 100000 in
theorem c_X7_lookByDraws {E : mm_E} (hI : mm_FX E) {M : mm_M} {s : zS} (hR : zX s M) (hW : zW s) {l : Nat} (hl : l < s 0 1) {p : Nat} (hp : p < s 0 0) (hs : s 0 2 < 200) (h0 : z_an s l p = 0) : mm_Cal E mX7_lookByDraws [.ref (E.1 7), .int (nI l), .int (nI p)] M (fun v M' => v = some (.int (nI (z_said s l p (s 0 3)).1)) ∧ zX (zlook s l p) M' ∧ mm_same zLC M M') := by
  obtain ⟨Rp, Rl, Rk, Rw, Rt, Rd, Ro, Rq⟩ := hR
  obtain ⟨Wp, Wl, Wk, Ww, Wt, Wd, Wo, Wq⟩ := hW
  have hnp := Wp.1
  have hnl := Wl.1
  have hnk := Wk.1
  have hall : zX s M := ⟨Rp, Rl, Rk, Rw, Rt, Rd, Ro, Rq⟩
  have wall : zW s := ⟨Wp, Wl, Wk, Ww, Wt, Wd, Wo, Wq⟩
  have hq := z_said_le Wp (l := l) hp Wd
  refine jr_entry RX7 (by decide +kernel) (Nat.le_of_ble_eq_true rfl) (fun g hg => ?_)
  refine jr_lv (lv' := [(0, .ref (E.1 7)), (1, .int (nI l)), (2, .int (nI p))]) [0, 1, 2] rfl ?_
  refine jr_aload_n hg 0 rfl rfl dX7_lookByDraws_0 ?_
  refine jr_iload_n hg 1 rfl rfl dX7_lookByDraws_1 ?_
  refine jr_iload_n hg 2 rfl rfl dX7_lookByDraws_2 ?_
  refine jr_cV2v hg lk_X7_258 (hI 7 (by decide)) rfl rfl (by decide) (by decide) (Nat.le_of_ble_eq_true rfl) dX7_lookByDraws_3 (c_X7_answerByDraws hI hall wall hl hp) ?_
  have Rk : zX_k s (zseedM M (z_said s l p (s 0 3)).2) := Rk
  refine jr_istore_n hg dX7_lookByDraws_6 rfl (by decide) rfl ?_
  refine jr_aload_n hg 1 rfl rfl dX7_lookByDraws_7 ?_
  refine gf_X7_40 hg (hI 7 (by decide)) dX7_lookByDraws_8 ?_
  refine jr_iload_n hg 2 rfl rfl dX7_lookByDraws_11 ?_
  refine jr_iload_n hg 3 rfl rfl dX7_lookByDraws_12 ?_
  refine jr_iload_n hg 0 rfl rfl dX7_lookByDraws_13 ?_
  refine jr_cV3p hg lk_X7_152 (hI 3 (by decide)) rfl rfl (by decide) (by decide) (Nat.le_of_ble_eq_true rfl) dX7_lookByDraws_14 (c_X3_add hI Rk Wk (by omega) (by omega) hq.1 hs h0) (fun r M' h => ?_)
  obtain ⟨rfl, h⟩ := h
  refine jr_st (show _ = [Value.int (nI (s 0 2))] from rfl) ?_
  have hsm : mm_same zLC M M' := mm_same.tr (mm_same.rf.sl (by decide)) (h.2.wk (by decide))
  have hd2 : M'.2 0 0 = lN (z_said s l p (s 0 3)).2 := by rw [(h.2 0 (by decide)).2]; rfl
  refine jr_pop hg dX7_lookByDraws_17 rfl ?_
  refine jr_iload_n hg 0 rfl rfl dX7_lookByDraws_18 ?_
  exact jr_iret hg rfl dX7_lookByDraws_19 (⟨rfl, zX_look hall h.1 hd2 hsm, hsm⟩)

set_option maxRecDepth 100000 in
theorem c_X7_takeTurn {E : mm_E} (hI : mm_FX E) {M : mm_M} {s : zS} (hR : zX s M) (hW : zW s) {S r : Nat} (hS : S < 2 ^ 31) (hr : r ≤ 2) : mm_Cal E mX7_takeTurn [.ref (E.1 7), .int (nI S), .int (nI r)] M (fun v M' => v = none ∧ zX (z_tt s S r (s 0 1)) M' ∧ mm_same zLC M M') := by
  obtain ⟨Rp, Rl, Rk, Rw, Rt, Rd, Ro, Rq⟩ := hR
  obtain ⟨Wp, Wl, Wk, Ww, Wt, Wd, Wo, Wq⟩ := hW
  have hnp := Wp.1
  have hnl := Wl.1
  have hnk := Wk.1
  have hall : zX s M := ⟨Rp, Rl, Rk, Rw, Rt, Rd, Ro, Rq⟩
  have wall : zW s := ⟨Wp, Wl, Wk, Ww, Wt, Wd, Wo, Wq⟩
  refine jr_entry RX7 (by decide +kernel) (Nat.le_of_ble_eq_true rfl) (fun g hg => ?_)
  refine jr_lv (lv' := [(0, .ref (E.1 7)), (1, .int (nI S)), (2, .int (nI r))]) [0, 1, 2] rfl ?_
  refine jr_iconst hg (nI 0) dX7_takeTurn_0 (by decide) ?_
  refine jr_istore_n hg dX7_takeTurn_1 rfl (by decide) rfl ?_
  have lp2 : ∀ l : Nat, l ≤ s 0 1 → ∀ M1, zX (z_tt s S r l) M1 → mm_same zLC M M1 → mm_J g E mX7_takeTurn (fun v M' => v = none ∧ zX (z_tt s S r (s 0 1)) M' ∧ mm_same zLC M M') 2 [(0, .ref (E.1 7)), (1, .int (nI S)), (2, .int (nI r)), (3, .int (nI l))] [] (M1) := by
    refine jr_up (S := fun l => ∀ M1, zX (z_tt s S r l) M1 → mm_same zLC M M1 → mm_J g E mX7_takeTurn (fun v M' => v = none ∧ zX (z_tt s S r (s 0 1)) M' ∧ mm_same zLC M M') 2 [(0, .ref (E.1 7)), (1, .int (nI S)), (2, .int (nI r)), (3, .int (nI l))] [] (M1)) (n := s 0 1) ?_ ?_
    · intro M1 hX hsm
      show mm_J g E mX7_takeTurn (fun v M' => v = none ∧ zX (z_tt s S r (s 0 1)) M' ∧ mm_same zLC M M') 2 [(0, .ref (E.1 7)), (1, .int (nI S)), (2, .int (nI r)), (3, .int (nI (s 0 1)))] [] (M1)
      have hu := zW_tt wall S r (s 0 1) (Nat.le_refl _)
      have hk1 := (z_tt_keep s S r (s 0 1)).2.1
      refine jr_iload_n hg 3 rfl rfl dX7_takeTurn_2 ?_
      refine jr_aload_n hg 0 rfl rfl dX7_takeTurn_3 ?_
      refine gf_X7_33 hg (hI 7 (by decide)) dX7_takeTurn_4 ?_
      refine jr_cV0v hg lk_X7_108 (hI 2 (by decide)) rfl rfl (by decide) (by decide) (Nat.le_of_ble_eq_true rfl) dX7_takeTurn_7 (c_X2_size hI hX.2.1 hu.2.1) ?_
      rw [hk1]
      refine jr_icmp_geN (tgt := 67) hg dX7_takeTurn_10 (by decide) (by omega) (by omega) (fun h10 => ?_) (fun h => by omega)
      exact jr_vret hg rfl dX7_takeTurn_67 (⟨rfl, hX, hsm⟩)
    · intro l hl ih M1 hX hsm
      show mm_J g E mX7_takeTurn (fun v M' => v = none ∧ zX (z_tt s S r (s 0 1)) M' ∧ mm_same zLC M M') 2 [(0, .ref (E.1 7)), (1, .int (nI S)), (2, .int (nI r)), (3, .int (nI l))] [] (M1)
      have hu := zW_tt wall S r l (by omega)
      have hk1 := (z_tt_keep s S r l).2.1
      have hk0 := (z_tt_keep s S r l).1
      refine jr_iload_n hg 3 rfl rfl dX7_takeTurn_2 ?_
      refine jr_aload_n hg 0 rfl rfl dX7_takeTurn_3 ?_
      refine gf_X7_33 hg (hI 7 (by decide)) dX7_takeTurn_4 ?_
      refine jr_cV0v hg lk_X7_108 (hI 2 (by decide)) rfl rfl (by decide) (by decide) (Nat.le_of_ble_eq_true rfl) dX7_takeTurn_7 (c_X2_size hI hX.2.1 hu.2.1) ?_
      rw [hk1]
      refine jr_icmp_geN (tgt := 67) hg dX7_takeTurn_10 (by decide) (by omega) (by omega) (fun h => by omega) (fun h10 => ?_)
      refine jr_iload_n hg 1 rfl rfl dX7_takeTurn_13 ?_
      refine jr_iload_n hg 3 rfl rfl dX7_takeTurn_14 ?_
      refine jr_cS2v hg lk_X7_290 (by decide) (by decide) (Nat.le_of_ble_eq_true rfl) dX7_takeTurn_15 (c_X7_isIn hI (by omega) (by omega)) ?_
      refine jr_if_eqZ (tgt := 61) hg dX7_takeTurn_18 (by decide) (fun h18 => ?_) (fun h18 => ?_)
      · refine jr_iinc hg 3 rfl (nI (_ + 1)) (nI_1 _) dX7_takeTurn_61 (by decide) rfl ?_
        refine jr_goto (tgt := 2) hg dX7_takeTurn_64 (by decide) ?_
        have e : z_tt s S r (l + 1) = z_tt s S r l := by rw [z_tt, h18]; rfl
        exact jr_lv [1, 2, 3, 0] rfl (ih M1 (by rw [e]; exact hX) hsm)
      · refine jr_aload_n hg 0 rfl rfl dX7_takeTurn_21 ?_
        refine gf_X7_40 hg (hI 7 (by decide)) dX7_takeTurn_22 ?_
        refine jr_cV0v hg lk_X7_155 (hI 3 (by decide)) rfl rfl (by decide) (by decide) (Nat.le_of_ble_eq_true rfl) dX7_takeTurn_25 (c_X3_isFull hI hX.2.2.1 hu.2.2.1) ?_
        refine jr_if_neZ (tgt := 61) hg dX7_takeTurn_28 (by decide) (fun h28 => ?_) (fun h28 => ?_)
        · refine jr_iinc hg 3 rfl (nI (_ + 1)) (nI_1 _) dX7_takeTurn_61 (by decide) rfl ?_
          refine jr_goto (tgt := 2) hg dX7_takeTurn_64 (by decide) ?_
          have e : z_tt s S r (l + 1) = z_tt s S r l := by rw [z_tt, show decide (z_tt s S r l 0 2 < 200) = false from decide_eq_false (by have := of_decide_eq_true h28; omega)]; simp
          exact jr_lv [1, 2, 3, 0] rfl (ih M1 (by rw [e]; exact hX) hsm)
        · refine jr_aload_n hg 0 rfl rfl dX7_takeTurn_31 ?_
          refine jr_iload_n hg 3 rfl rfl dX7_takeTurn_32 ?_
          refine jr_cV1v hg lk_X7_189 (hI 7 (by decide)) rfl rfl (by decide) (by decide) (Nat.le_of_ble_eq_true rfl) dX7_takeTurn_33 (c_X7_keepsOn hI hX hu (by omega)) ?_
          refine jr_if_eqZ (tgt := 61) hg dX7_takeTurn_36 (by decide) (fun h36 => ?_) (fun h36 => ?_)
          · refine jr_iinc hg 3 rfl (nI (_ + 1)) (nI_1 _) dX7_takeTurn_61 (by decide) rfl ?_
            refine jr_goto (tgt := 2) hg dX7_takeTurn_64 (by decide) ?_
            have e : z_tt s S r (l + 1) = z_tt s S r l := by rw [z_tt, h36]; simp
            exact jr_lv [1, 2, 3, 0] rfl (ih M1 (by rw [e]; exact hX) hsm)
          · refine jr_aload_n hg 0 rfl rfl dX7_takeTurn_39 ?_
            refine jr_iload_n hg 3 rfl rfl dX7_takeTurn_40 ?_
            refine jr_iload_n hg 2 rfl rfl dX7_takeTurn_41 ?_
            refine jr_cV2v hg lk_X7_178 (hI 7 (by decide)) rfl rfl (by decide) (by decide) (Nat.le_of_ble_eq_true rfl) dX7_takeTurn_42 (c_X7_shownNext hI hX hu (by omega) hr) ?_
            refine jr_istore hg dX7_takeTurn_45 (by decide) rfl ?_
            refine jr_iload hg 0 rfl dX7_takeTurn_47 ?_
            refine jr_iconst hg (-1) dX7_takeTurn_49 (by decide) ?_
            refine jr_icmp_eq (tgt := 61) hg dX7_takeTurn_50 (by decide) (fun h50 => ?_) (fun h50 => ?_)
            · refine jr_iinc hg 4 rfl (nI (_ + 1)) (nI_1 _) dX7_takeTurn_61 (by decide) rfl ?_
              refine jr_goto (tgt := 2) hg dX7_takeTurn_64 (by decide) ?_
              have e : z_tt s S r (l + 1) = z_tt s S r l := by rw [z_tt, (zmv_m1 (by have := z_nx_le (z_tt s S r l) l r (z_tt s S r l 0 0); omega)).mp h50]; simp
              exact jr_lv [2, 3, 4, 0] rfl (ih M1 (by rw [e]; exact hX) hsm)
            · have hn0 : z_nx (z_tt s S r l) l r (z_tt s S r l 0 0) ≠ 0 := fun q => h50 ((zmv_m1 (by have := z_nx_le (z_tt s S r l) l r (z_tt s S r l 0 0); omega)).mpr q)
              have hok := z_nx_ok hn0
              have hlt : z_tt s S r l 0 2 < 200 := by have := of_decide_eq_false h28; omega
              rw [show zmv (z_nx (z_tt s S r l) l r (z_tt s S r l 0 0)) = nI (z_nx (z_tt s S r l) l r (z_tt s S r l 0 0) - 1) by rw [zmv, if_neg hn0]]
              refine jr_aload_n hg 1 rfl rfl dX7_takeTurn_53 ?_
              refine jr_iload_n hg 4 rfl rfl dX7_takeTurn_54 ?_
              refine jr_iload hg 0 rfl dX7_takeTurn_55 ?_
              refine jr_cV2p hg lk_X7_159 (hI 7 (by decide)) rfl rfl (by decide) (by decide) (Nat.le_of_ble_eq_true rfl) dX7_takeTurn_57 (c_X7_lookByDraws hI hX hu (by omega) hok.2 hlt hok.1) (fun r M' h => ?_)
              obtain ⟨rfl, h⟩ := h
              refine jr_st (show _ = [Value.int (nI (z_said (z_tt s S r l) l (z_nx (z_tt s S r l) l r (z_tt s S r l 0 0) - 1) (z_tt s S r l 0 3)).1)] from rfl) ?_
              refine jr_pop hg dX7_takeTurn_60 rfl ?_
              refine jr_iinc hg 4 rfl (nI (_ + 1)) (nI_1 _) dX7_takeTurn_61 (by decide) rfl ?_
              refine jr_goto (tgt := 2) hg dX7_takeTurn_64 (by decide) ?_
              have e : z_tt s S r (l + 1) = zlook (z_tt s S r l) l (z_nx (z_tt s S r l) l r (z_tt s S r l 0 0) - 1) := by rw [z_tt, h18, h36, decide_eq_true hlt]; simp [hn0]
              exact jr_lv [2, 3, 4, 0] rfl (ih M' (by rw [e]; exact h.1) (hsm.tr h.2))
  exact jr_lv [1, 2, 3, 0] rfl (lp2 0 (by omega) M hall mm_same.rf)
