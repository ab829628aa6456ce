def zR_r (o t y : Nat → Nat) (r : Nat) (b : Bool) (M : mm_M) : Prop := (∀ j, j < 72 → M.1 48 j = nI (o j)) ∧ (∀ j, j < 96 → M.1 49 j = nI (t j)) ∧ (∀ j, j < 3 → M.1 50 j = nI (y j)) ∧ M.1 35 27 = nI b.toNat ∧ M.1 35 25 = nI r
/-- nothing but these cells, and of the object's own no more than the flag and the rounds -/
def zfr (cs : List Nat) (M M1 : mm_M) : Prop := mm_same cs M M1 ∧ ∀ j, j ≠ 25 → j ≠ 27 → M1.1 35 j = M.1 35 j
theorem zfr.rf {cs : List Nat} {M : mm_M} : zfr cs M M := ⟨mm_same.rf, fun _ _ _ => rfl⟩
theorem zfr.tr {cs : List Nat} {M M1 M2 : mm_M} (h : zfr cs M M1) (h2 : zfr cs M1 M2) : zfr cs M M2 := ⟨h.1.tr h2.1, fun j a b => (h2.2 j a b).trans (h.2 j a b)⟩
theorem zfr.wk {cs ds : List Nat} {M M1 : mm_M} (h : zfr cs M M1) (hs : ∀ c, c ∈ cs → c ∈ ds) : zfr ds M M1 := ⟨h.1.wk hs, h.2⟩
theorem zfr.si {cs : List Nat} {M M1 : mm_M} {c : Nat} {r : Nat → Int32} (h : zfr cs M M1) (hc : c ∈ cs) (h35 : c ≠ 35) : zfr cs M (mm_si M1 c r) := ⟨h.1.si hc, fun j a b => by
  show (if 35 = c then r else M1.1 35) j = _
  rw [if_neg (Ne.symm h35)]; exact h.2 j a b⟩
theorem zfr.sl {cs : List Nat} {M M1 : mm_M} {c : Nat} {r : Nat → Int64} (h : zfr cs M M1) (hc : c ∈ cs) : zfr cs M (mm_sl M1 c r) := ⟨h.1.sl hc, h.2⟩
theorem zfr.fl {cs : List Nat} {M M1 : mm_M} {k : Nat} {x : Int32} (h : zfr cs M M1) (hc : 35 ∈ cs) (hk : k = 25 ∨ k = 27) : zfr cs M (mm_si M1 35 (upd (M1.1 35) k x)) := ⟨h.1.si hc, fun j a b => by
  show upd (M1.1 35) k x j = _
  rw [upd_n (by omega)]; exact h.2 j a b⟩
abbrev zRC : List Nat := [35, 48, 49, 50, 51, 52, 53, 54]
theorem zfr_p {s : zS} {M M1 : mm_M} (f : zfr zRC M M1) (q : zR_p s M) : zR_p s M1 := zR_p_c (f.2 9 (by decide) (by decide)) (f.1.at (by decide)) q
theorem zfr_l {s : zS} {M M1 : mm_M} (f : zfr zRC M M1) (q : zR_l s M) : zR_l s M1 := zR_l_c (f.2 15 (by decide) (by decide)) (f.1.at (by decide)) q
theorem zfr_k {s : zS} {M M1 : mm_M} (f : zfr zRC M M1) (q : zR_k s M) : zR_k s M1 := zR_k_c (f.2 17 (by decide) (by decide)) (f.1.at (by decide)) q
theorem zfr_w {s : zS} {M M1 : mm_M} (f : zfr zRC M M1) (q : zR_w s M) : zR_w s M1 := zR_w_c (f.1.at (by decide)) q
theorem zfr_t {s : zS} {M M1 : mm_M} (f : zfr zRC M M1) (q : zR_t s M) : zR_t s M1 := zR_t_c (f.2 3 (by decide) (by decide)) (f.2 8 (by decide) (by decide)) (f.1.at (by decide)) q
theorem zfr_d {s : zS} {M M1 : mm_M} (f : zfr zRC M M1) (q : zR_d s M) : zR_d s M1 := zR_d_c (f.2 21 (by decide) (by decide)) q
theorem zfr_q {s : zS} {M M1 : mm_M} (f : zfr zRC M M1) (q : zR_q s M) : zR_q s M1 := zR_q_c (f.2 31 (by decide) (by decide)) (f.1.at (by decide)) q
theorem zR_r_c {o t y : Nat → Nat} {r : Nat} {b : Bool} {M M1 : mm_M} (g : M1.1 35 = M.1 35) (h : ∀ d, d ∈ [48, 49, 50] → M1.1 d = M.1 d) (q : zR_r o t y r b M) : zR_r o t y r b M1 := by
  simp only [zR_r, g, h 48 (by decide), h 49 (by decide), h 50 (by decide)]
  exact q
theorem zR_r_0o {n o t y : Nat → Nat} {r : Nat} {b : Bool} {M : mm_M} (q : zR_r o t y r b M) : zR_r (z_mix n o 0) t y r (b || z_df o n 0) M := by rw [z_mix_0, z_df, Bool.or_false]; exact q
theorem zR_r_0t {n o t y : Nat → Nat} {r : Nat} {b : Bool} {M : mm_M} (q : zR_r o t y r b M) : zR_r o (z_mix n t 0) y r (b || z_df t n 0) M := by rw [z_mix_0, z_df, Bool.or_false]; exact q
theorem zR_r_0y {n o t y : Nat → Nat} {r : Nat} {b : Bool} {M : mm_M} (q : zR_r o t y r b M) : zR_r o t (z_mix n y 0) r (b || z_df y n 0) M := by rw [z_mix_0, z_df, Bool.or_false]; exact q
theorem z_ch_full {s : zS} {p k x : Nat} (h : 6 ≤ zcnt (z_of s p) x) : ∀ m, x ≤ m → z_ch s p k m = z_ch s p k x := by
  intro m hm
  induction m with
  | zero => have e : x = 0 := by omega
            rw [e]
  | succ m ih =>
    rcases Nat.lt_or_ge x (m + 1) with q | q
    · have c := zcnt_mono (z_of s p) (show x ≤ m by omega)
      rw [z_ch, if_neg, ih (by omega)]
      simp only [Bool.and_eq_true, beq_iff_eq, z_co, decide_eq_true_eq]
      rintro ⟨a, b⟩
      rw [b] at a; omega
    · have e : x = m + 1 := by omega
      rw [e]
def z_bk (f : Nat → Nat) : Nat → Nat
  | 0 => 0
  | k + 1 => if f (z_bk f k) < f k then k else z_bk f k
theorem z_bk_3 (f : Nat → Nat) : z_bk f 3 = z_b3 f := by
  have e1 : z_bk f 1 = 0 := by rw [z_bk]; exact if_neg (Nat.lt_irrefl _)
  have e2 : z_bk f 2 = if f 0 < f 1 then 1 else 0 := by rw [z_bk, e1]
  by_cases a : f 0 < f 1
  · rw [if_pos a] at e2
    by_cases b : f 1 < f 2
    · rw [z_bk, e2, if_pos b, z_b3, if_neg (by omega), if_neg (by omega)]
    · rw [z_bk, e2, if_neg b, z_b3, if_neg (by omega), if_pos (by omega)]
  · rw [if_neg a] at e2
    by_cases b : f 0 < f 2
    · rw [z_bk, e2, if_pos b, z_b3, if_neg (by omega), if_neg (by omega)]
    · rw [z_bk, e2, if_neg b, z_b3, if_pos ⟨by omega, by omega⟩]
theorem z_bk_le (f : Nat → Nat) : ∀ k, z_bk f k ≤ k := by
  intro k
  induction k with
  | zero => exact Nat.le_refl _
  | succ k ih => rw [z_bk]; split <;> omega

set_option maxRecDepth 100000 in
theorem c_X8_beginOdds {E : mm_E} (hI : ∀ c, c ∈ [35, 48, 49, 50] → c ∈ E.2.1) {M : mm_M}  : mm_Cal E mX8_beginOdds [.ref (E.1 35)] M (fun v M' => v = none ∧ (∀ j, j < 72 → M'.1 48 j = nI (z_o0 j)) ∧ (∀ j, j < 96 → M'.1 49 j = nI (z_t0 j)) ∧ (∀ j, j < 3 → M'.1 50 j = nI (z_y0 j)) ∧ mm_same [48, 49, 50] M M') := by
  refine jr_entry RX8 (by decide +kernel) (Nat.le_of_ble_eq_true rfl) (fun g hg => ?_)
  refine jr_lv (lv' := [(0, .ref (E.1 35))]) [0] rfl ?_
  refine jr_iconst hg (nI 0) dX8_beginOdds_0 (by decide) ?_
  refine jr_istore_n hg dX8_beginOdds_1 rfl (by decide) rfl ?_
  have lp2 : ∀ i : Nat, i ≤ 72 → ∀ M1, (∀ j, j < i → M1.1 48 j = nI (z_o0 j)) → mm_same [48, 49, 50] M M1 → mm_J g E mX8_beginOdds (fun v M' => v = none ∧ (∀ j, j < 72 → M'.1 48 j = nI (z_o0 j)) ∧ (∀ j, j < 96 → M'.1 49 j = nI (z_t0 j)) ∧ (∀ j, j < 3 → M'.1 50 j = nI (z_y0 j)) ∧ mm_same [48, 49, 50] M M') 2 [(0, .ref (E.1 35)), (1, .int (nI i))] [] (M1) := by
    refine jr_up (S := fun i => ∀ M1, (∀ j, j < i → M1.1 48 j = nI (z_o0 j)) → mm_same [48, 49, 50] M M1 → mm_J g E mX8_beginOdds (fun v M' => v = none ∧ (∀ j, j < 72 → M'.1 48 j = nI (z_o0 j)) ∧ (∀ j, j < 96 → M'.1 49 j = nI (z_t0 j)) ∧ (∀ j, j < 3 → M'.1 50 j = nI (z_y0 j)) ∧ mm_same [48, 49, 50] M M') 2 [(0, .ref (E.1 35)), (1, .int (nI i))] [] (M1)) (n := 72) ?_ ?_
    · intro M1 hrow hs
      show mm_J g E mX8_beginOdds (fun v M' => v = none ∧ (∀ j, j < 72 → M'.1 48 j = nI (z_o0 j)) ∧ (∀ j, j < 96 → M'.1 49 j = nI (z_t0 j)) ∧ (∀ j, j < 3 → M'.1 50 j = nI (z_y0 j)) ∧ mm_same [48, 49, 50] M M') 2 [(0, .ref (E.1 35)), (1, .int (nI (72)))] [] (M1)
      refine jr_iload_n hg 1 rfl rfl dX8_beginOdds_2 ?_
      refine jr_bipush hg (nI 72) dX8_beginOdds_3 (by decide) ?_
      refine jr_icmp_geN (tgt := 35) hg dX8_beginOdds_5 (by decide) (by omega) (by omega) (fun h5 => ?_) (fun h => by omega)
      refine jr_iconst hg (nI 0) dX8_beginOdds_35 (by decide) ?_
      refine jr_istore_n hg dX8_beginOdds_36 rfl (by decide) rfl ?_
      have lp37 : ∀ i : Nat, i ≤ 96 → ∀ M2, (∀ j, j < i → M2.1 49 j = nI (z_t0 j)) → (∀ j, j < 72 → M2.1 48 j = nI (z_o0 j)) → mm_same [48, 49, 50] M M2 → mm_J g E mX8_beginOdds (fun v M' => v = none ∧ (∀ j, j < 72 → M'.1 48 j = nI (z_o0 j)) ∧ (∀ j, j < 96 → M'.1 49 j = nI (z_t0 j)) ∧ (∀ j, j < 3 → M'.1 50 j = nI (z_y0 j)) ∧ mm_same [48, 49, 50] M M') 37 [(0, .ref (E.1 35)), (1, .int (nI i))] [] (M2) := by
        refine jr_up (S := fun i => ∀ M2, (∀ j, j < i → M2.1 49 j = nI (z_t0 j)) → (∀ j, j < 72 → M2.1 48 j = nI (z_o0 j)) → mm_same [48, 49, 50] M M2 → mm_J g E mX8_beginOdds (fun v M' => v = none ∧ (∀ j, j < 72 → M'.1 48 j = nI (z_o0 j)) ∧ (∀ j, j < 96 → M'.1 49 j = nI (z_t0 j)) ∧ (∀ j, j < 3 → M'.1 50 j = nI (z_y0 j)) ∧ mm_same [48, 49, 50] M M') 37 [(0, .ref (E.1 35)), (1, .int (nI i))] [] (M2)) (n := 96) ?_ ?_
        · intro M2 hrow hro hs
          show mm_J g E mX8_beginOdds (fun v M' => v = none ∧ (∀ j, j < 72 → M'.1 48 j = nI (z_o0 j)) ∧ (∀ j, j < 96 → M'.1 49 j = nI (z_t0 j)) ∧ (∀ j, j < 3 → M'.1 50 j = nI (z_y0 j)) ∧ mm_same [48, 49, 50] M M') 37 [(0, .ref (E.1 35)), (1, .int (nI (96)))] [] (M2)
          refine jr_iload_n hg 1 rfl rfl dX8_beginOdds_37 ?_
          refine jr_bipush hg (nI 96) dX8_beginOdds_38 (by decide) ?_
          refine jr_icmp_geN (tgt := 73) hg dX8_beginOdds_40 (by decide) (by omega) (by omega) (fun h40 => ?_) (fun h => by omega)
          refine jr_iconst hg (nI 0) dX8_beginOdds_73 (by decide) ?_
          refine jr_istore_n hg dX8_beginOdds_74 rfl (by decide) rfl ?_
          have lp75 : ∀ i : Nat, i ≤ 3 → ∀ M3, (∀ j, j < i → M3.1 50 j = nI (z_y0 j)) → (∀ j, j < 72 → M3.1 48 j = nI (z_o0 j)) → (∀ j, j < 96 → M3.1 49 j = nI (z_t0 j)) → mm_same [48, 49, 50] M M3 → mm_J g E mX8_beginOdds (fun v M' => v = none ∧ (∀ j, j < 72 → M'.1 48 j = nI (z_o0 j)) ∧ (∀ j, j < 96 → M'.1 49 j = nI (z_t0 j)) ∧ (∀ j, j < 3 → M'.1 50 j = nI (z_y0 j)) ∧ mm_same [48, 49, 50] M M') 75 [(0, .ref (E.1 35)), (1, .int (nI i))] [] (M3) := by
            refine jr_up (S := fun i => ∀ M3, (∀ j, j < i → M3.1 50 j = nI (z_y0 j)) → (∀ j, j < 72 → M3.1 48 j = nI (z_o0 j)) → (∀ j, j < 96 → M3.1 49 j = nI (z_t0 j)) → mm_same [48, 49, 50] M M3 → mm_J g E mX8_beginOdds (fun v M' => v = none ∧ (∀ j, j < 72 → M'.1 48 j = nI (z_o0 j)) ∧ (∀ j, j < 96 → M'.1 49 j = nI (z_t0 j)) ∧ (∀ j, j < 3 → M'.1 50 j = nI (z_y0 j)) ∧ mm_same [48, 49, 50] M M') 75 [(0, .ref (E.1 35)), (1, .int (nI i))] [] (M3)) (n := 3) ?_ ?_
            · intro M3 hrow hro hrt hs
              show mm_J g E mX8_beginOdds (fun v M' => v = none ∧ (∀ j, j < 72 → M'.1 48 j = nI (z_o0 j)) ∧ (∀ j, j < 96 → M'.1 49 j = nI (z_t0 j)) ∧ (∀ j, j < 3 → M'.1 50 j = nI (z_y0 j)) ∧ mm_same [48, 49, 50] M M') 75 [(0, .ref (E.1 35)), (1, .int (nI (3)))] [] (M3)
              refine jr_iload_n hg 1 rfl rfl dX8_beginOdds_75 ?_
              refine jr_iconst hg (nI 3) dX8_beginOdds_76 (by decide) ?_
              refine jr_icmp_geN (tgt := 105) hg dX8_beginOdds_77 (by decide) (by omega) (by omega) (fun h77 => ?_) (fun h => by omega)
              exact jr_vret hg rfl dX8_beginOdds_105 (⟨rfl, hro, hrt, hrow, hs⟩)
            · intro i hi ih3 M3 hrow hro hrt hs
              show mm_J g E mX8_beginOdds (fun v M' => v = none ∧ (∀ j, j < 72 → M'.1 48 j = nI (z_o0 j)) ∧ (∀ j, j < 96 → M'.1 49 j = nI (z_t0 j)) ∧ (∀ j, j < 3 → M'.1 50 j = nI (z_y0 j)) ∧ mm_same [48, 49, 50] M M') 75 [(0, .ref (E.1 35)), (1, .int (nI i))] [] (M3)
              refine jr_iload_n hg 1 rfl rfl dX8_beginOdds_75 ?_
              refine jr_iconst hg (nI 3) dX8_beginOdds_76 (by decide) ?_
              refine jr_icmp_geN (tgt := 105) hg dX8_beginOdds_77 (by decide) (by omega) (by omega) (fun h => by omega) (fun h77 => ?_)
              refine jr_aload_n hg 0 rfl rfl dX8_beginOdds_80 ?_
              refine gf_X8_57 hg (hI 35 (by decide)) dX8_beginOdds_81 ?_
              refine jr_iload_n hg 1 rfl rfl dX8_beginOdds_84 ?_
              refine jr_iload_n hg 1 rfl rfl dX8_beginOdds_85 ?_
              refine jr_if_neN (tgt := 95) hg dX8_beginOdds_86 (by decide) (by omega) (fun h86 => ?_) (fun h86 => ?_)
              · refine jr_sipush hg (nI 333) dX8_beginOdds_95 (by decide) ?_
                refine jr_iastN hg (n := 3) (by omega) (by decide) (hI 50 (by decide)) (ac_50) dX8_beginOdds_98 ?_
                refine jr_iinc hg 1 rfl (nI (_ + 1)) (nI_1 _) dX8_beginOdds_99 (by decide) rfl ?_
                refine jr_goto (tgt := 75) hg dX8_beginOdds_102 (by decide) ?_
                exact jr_lv [1, 0] rfl (ih3 (mm_si M3 50 (upd (M3.1 50) i (nI 333))) (fun j hj => by show upd (M3.1 50) i (nI 333) j = _; by_cases e : j = i; rw [e, upd_s, z_y0, if_neg (by omega)]; rw [upd_n e]; exact hrow j (by omega)) hro hrt (hs.si (by decide)))
              · refine jr_sipush hg (nI 334) dX8_beginOdds_89 (by decide) ?_
                refine jr_goto (tgt := 98) hg dX8_beginOdds_92 (by decide) ?_
                refine jr_iastN hg (n := 3) (by omega) (by decide) (hI 50 (by decide)) (ac_50) dX8_beginOdds_98 ?_
                refine jr_iinc hg 1 rfl (nI (_ + 1)) (nI_1 _) dX8_beginOdds_99 (by decide) rfl ?_
                refine jr_goto (tgt := 75) hg dX8_beginOdds_102 (by decide) ?_
                exact jr_lv [1, 0] rfl (ih3 (mm_si M3 50 (upd (M3.1 50) i (nI 334))) (fun j hj => by show upd (M3.1 50) i (nI 334) j = _; by_cases e : j = i; rw [e, upd_s, z_y0, if_pos h86]; rw [upd_n e]; exact hrow j (by omega)) hro hrt (hs.si (by decide)))
          exact jr_lv [1, 0] rfl (lp75 0 (by omega) M2 (fun j hj => by omega) hro hrow hs)
        · intro i hi ih2 M2 hrow hro hs
          show mm_J g E mX8_beginOdds (fun v M' => v = none ∧ (∀ j, j < 72 → M'.1 48 j = nI (z_o0 j)) ∧ (∀ j, j < 96 → M'.1 49 j = nI (z_t0 j)) ∧ (∀ j, j < 3 → M'.1 50 j = nI (z_y0 j)) ∧ mm_same [48, 49, 50] M M') 37 [(0, .ref (E.1 35)), (1, .int (nI i))] [] (M2)
          refine jr_iload_n hg 1 rfl rfl dX8_beginOdds_37 ?_
          refine jr_bipush hg (nI 96) dX8_beginOdds_38 (by decide) ?_
          refine jr_icmp_geN (tgt := 73) hg dX8_beginOdds_40 (by decide) (by omega) (by omega) (fun h => by omega) (fun h40 => ?_)
          refine jr_aload_n hg 0 rfl rfl dX8_beginOdds_43 ?_
          refine gf_X8_54 hg (hI 35 (by decide)) dX8_beginOdds_44 ?_
          refine jr_iload_n hg 1 rfl rfl dX8_beginOdds_47 ?_
          refine jr_iload_n hg 1 rfl rfl dX8_beginOdds_48 ?_
          refine jr_iconst hg (nI 4) dX8_beginOdds_49 (by decide) ?_
          refine jr_idivN hg dX8_beginOdds_50 (by omega) (by omega) (by omega) ?_
          refine jr_iconst hg (nI 3) dX8_beginOdds_51 (by decide) ?_
          refine jr_iremN hg dX8_beginOdds_52 (by omega) (by omega) (by omega) ?_
          refine jr_iload_n hg 1 rfl rfl dX8_beginOdds_53 ?_
          refine jr_iconst hg (nI 4) dX8_beginOdds_54 (by decide) ?_
          refine jr_iremN hg dX8_beginOdds_55 (by omega) (by omega) (by omega) ?_
          refine jr_icmp_neN (tgt := 64) hg dX8_beginOdds_56 (by decide) (by omega) (by omega) (fun h56 => ?_) (fun h56 => ?_)
          · refine jr_bipush hg (nI 10) dX8_beginOdds_64 (by decide) ?_
            refine jr_iastN hg (n := 96) (by omega) (by decide) (hI 49 (by decide)) (ac_49) dX8_beginOdds_66 ?_
            refine jr_iinc hg 1 rfl (nI (_ + 1)) (nI_1 _) dX8_beginOdds_67 (by decide) rfl ?_
            refine jr_goto (tgt := 37) hg dX8_beginOdds_70 (by decide) ?_
            exact jr_lv [1, 0] rfl (ih2 (mm_si M2 49 (upd (M2.1 49) i (nI 10))) (fun j hj => by show upd (M2.1 49) i (nI 10) j = _; by_cases e : j = i; rw [e, upd_s, z_t0, if_neg h56]; rw [upd_n e]; exact hrow j (by omega)) hro (hs.si (by decide)))
          · refine jr_bipush hg (nI 70) dX8_beginOdds_59 (by decide) ?_
            refine jr_goto (tgt := 66) hg dX8_beginOdds_61 (by decide) ?_
            refine jr_iastN hg (n := 96) (by omega) (by decide) (hI 49 (by decide)) (ac_49) dX8_beginOdds_66 ?_
            refine jr_iinc hg 1 rfl (nI (_ + 1)) (nI_1 _) dX8_beginOdds_67 (by decide) rfl ?_
            refine jr_goto (tgt := 37) hg dX8_beginOdds_70 (by decide) ?_
            exact jr_lv [1, 0] rfl (ih2 (mm_si M2 49 (upd (M2.1 49) i (nI 70))) (fun j hj => by show upd (M2.1 49) i (nI 70) j = _; by_cases e : j = i; rw [e, upd_s, z_t0, if_pos h56]; rw [upd_n e]; exact hrow j (by omega)) hro (hs.si (by decide)))
      exact jr_lv [1, 0] rfl (lp37 0 (by omega) M1 (fun j hj => by omega) hrow hs)
    · intro i hi ih M1 hrow hs
      show mm_J g E mX8_beginOdds (fun v M' => v = none ∧ (∀ j, j < 72 → M'.1 48 j = nI (z_o0 j)) ∧ (∀ j, j < 96 → M'.1 49 j = nI (z_t0 j)) ∧ (∀ j, j < 3 → M'.1 50 j = nI (z_y0 j)) ∧ mm_same [48, 49, 50] M M') 2 [(0, .ref (E.1 35)), (1, .int (nI i))] [] (M1)
      refine jr_iload_n hg 1 rfl rfl dX8_beginOdds_2 ?_
      refine jr_bipush hg (nI 72) dX8_beginOdds_3 (by decide) ?_
      refine jr_icmp_geN (tgt := 35) hg dX8_beginOdds_5 (by decide) (by omega) (by omega) (fun h => by omega) (fun h5 => ?_)
      refine jr_aload_n hg 0 rfl rfl dX8_beginOdds_8 ?_
      refine gf_X8_51 hg (hI 35 (by decide)) dX8_beginOdds_9 ?_
      refine jr_iload_n hg 1 rfl rfl dX8_beginOdds_12 ?_
      refine jr_iload_n hg 1 rfl rfl dX8_beginOdds_13 ?_
      refine jr_iconst hg (nI 3) dX8_beginOdds_14 (by decide) ?_
      refine jr_iremN hg dX8_beginOdds_15 (by omega) (by omega) (by omega) ?_
      refine jr_if_neN (tgt := 25) hg dX8_beginOdds_16 (by decide) (by omega) (fun h16 => ?_) (fun h16 => ?_)
      · refine jr_sipush hg (nI 333) dX8_beginOdds_25 (by decide) ?_
        refine jr_iastN hg (n := 72) (by omega) (by decide) (hI 48 (by decide)) (ac_48) dX8_beginOdds_28 ?_
        refine jr_iinc hg 1 rfl (nI (_ + 1)) (nI_1 _) dX8_beginOdds_29 (by decide) rfl ?_
        refine jr_goto (tgt := 2) hg dX8_beginOdds_32 (by decide) ?_
        exact jr_lv [1, 0] rfl (ih (mm_si M1 48 (upd (M1.1 48) i (nI 333))) (fun j hj => by show upd (M1.1 48) i (nI 333) j = _; by_cases e : j = i; rw [e, upd_s, z_o0, if_neg (by omega)]; rw [upd_n e]; exact hrow j (by omega))  (hs.si (by decide)))
      · refine jr_sipush hg (nI 334) dX8_beginOdds_19 (by decide) ?_
        refine jr_goto (tgt := 28) hg dX8_beginOdds_22 (by decide) ?_
        refine jr_iastN hg (n := 72) (by omega) (by decide) (hI 48 (by decide)) (ac_48) dX8_beginOdds_28 ?_
        refine jr_iinc hg 1 rfl (nI (_ + 1)) (nI_1 _) dX8_beginOdds_29 (by decide) rfl ?_
        refine jr_goto (tgt := 2) hg dX8_beginOdds_32 (by decide) ?_
        exact jr_lv [1, 0] rfl (ih (mm_si M1 48 (upd (M1.1 48) i (nI 334))) (fun j hj => by show upd (M1.1 48) i (nI 334) j = _; by_cases e : j = i; rw [e, upd_s, z_o0, if_pos h16]; rw [upd_n e]; exact hrow j (by omega))  (hs.si (by decide)))
  exact jr_lv [1, 0] rfl (lp2 0 (by omega) M (fun j hj => by omega) mm_same.rf)

set_option maxRecDepth 100000 in
theorem c_X8_setOdds {E : mm_E} (hI : mm_FR E) {M : mm_M} {o t y : Nat → Nat} {r : Nat} {b : Bool} (h : zR_r o t y r b M) {p k v : Nat} (hp : p < 24) (hk : k < 3) (hv : v < 2 ^ 31) (ho : o (3 * p + k) < 2 ^ 31) : mm_Cal E mX8_setOdds [.ref (E.1 35), .int (nI p), .int (nI k), .int (nI v)] M (fun q M' => q = none ∧ zR_r (zup o (3 * p + k) v) t y r (b || o (3 * p + k) != v) M' ∧ zfr [35, 48] M M') := by
  refine jr_entry RX8 (by decide +kernel) (Nat.le_of_ble_eq_true rfl) (fun g hg => ?_)
  refine jr_lv (lv' := [(0, .ref (E.1 35)), (1, .int (nI p)), (2, .int (nI k)), (3, .int (nI v))]) [0, 1, 2, 3] rfl ?_
  refine jr_aload_n hg 0 rfl rfl dX8_setOdds_0 ?_
  refine jr_aload_n hg 0 rfl rfl dX8_setOdds_1 ?_
  refine gf_X8_249 hg (hI 35 (by decide)) dX8_setOdds_2 ?_
  refine jr_top (h.2.2.2.1) ?_
  refine jr_if_neZ (tgt := 22) hg dX8_setOdds_5 (by decide) (fun h5 => ?_) (fun h5 => ?_)
  · refine jr_iconst hg (nI 1) dX8_setOdds_22 (by decide) ?_
    refine jr_goto (tgt := 27) hg dX8_setOdds_23 (by decide) ?_
    refine pf_X8_249 hg (by first | exact Or.inl rfl | exact Or.inr rfl | exact z01 _) (hI 35 (by decide)) dX8_setOdds_27 ?_
    refine jr_aload_n hg 0 rfl rfl dX8_setOdds_30 ?_
    refine gf_X8_51 hg (hI 35 (by decide)) dX8_setOdds_31 ?_
    refine jr_iconst hg (nI 3) dX8_setOdds_34 (by decide) ?_
    refine jr_iload_n hg 1 rfl rfl dX8_setOdds_35 ?_
    refine jr_imulN hg dX8_setOdds_36 ?_
    refine jr_iload_n hg 2 rfl rfl dX8_setOdds_37 ?_
    refine jr_iaddN hg dX8_setOdds_38 ?_
    refine jr_iload_n hg 3 rfl rfl dX8_setOdds_39 ?_
    refine jr_iastN hg (n := 72) (by omega) (by decide) (hI 48 (by decide)) (ac_48) dX8_setOdds_40 ?_
    exact jr_vret hg rfl dX8_setOdds_41 (⟨rfl, ⟨zrow_up h.1, h.2.1, h.2.2.1, by rw [h5]; rfl, h.2.2.2.2⟩, (zfr.rf.fl (by decide) (Or.inr rfl)).si (by decide) (by decide)⟩)
  · refine jr_aload_n hg 0 rfl rfl dX8_setOdds_8 ?_
    refine gf_X8_51 hg (hI 35 (by decide)) dX8_setOdds_9 ?_
    refine jr_iconst hg (nI 3) dX8_setOdds_12 (by decide) ?_
    refine jr_iload_n hg 1 rfl rfl dX8_setOdds_13 ?_
    refine jr_imulN hg dX8_setOdds_14 ?_
    refine jr_iload_n hg 2 rfl rfl dX8_setOdds_15 ?_
    refine jr_iaddN hg dX8_setOdds_16 ?_
    refine jr_ialdN hg (n := 72) (by omega) (by decide) (hI 48 (by decide)) (ac_48 _ _) dX8_setOdds_17 ?_
    refine jr_top (h.1 _ (by omega)) ?_
    refine jr_iload_n hg 3 rfl rfl dX8_setOdds_18 ?_
    refine jr_icmp_eqN (tgt := 26) hg dX8_setOdds_19 (by decide) (by omega) (by omega) (fun h19 => ?_) (fun h19 => ?_)
    · refine jr_iconst hg (nI 0) dX8_setOdds_26 (by decide) ?_
      refine pf_X8_249 hg (by first | exact Or.inl rfl | exact Or.inr rfl | exact z01 _) (hI 35 (by decide)) dX8_setOdds_27 ?_
      refine jr_aload_n hg 0 rfl rfl dX8_setOdds_30 ?_
      refine gf_X8_51 hg (hI 35 (by decide)) dX8_setOdds_31 ?_
      refine jr_iconst hg (nI 3) dX8_setOdds_34 (by decide) ?_
      refine jr_iload_n hg 1 rfl rfl dX8_setOdds_35 ?_
      refine jr_imulN hg dX8_setOdds_36 ?_
      refine jr_iload_n hg 2 rfl rfl dX8_setOdds_37 ?_
      refine jr_iaddN hg dX8_setOdds_38 ?_
      refine jr_iload_n hg 3 rfl rfl dX8_setOdds_39 ?_
      refine jr_iastN hg (n := 72) (by omega) (by decide) (hI 48 (by decide)) (ac_48) dX8_setOdds_40 ?_
      exact jr_vret hg rfl dX8_setOdds_41 (⟨rfl, ⟨zrow_up h.1, h.2.1, h.2.2.1, by rw [h5, zne_f h19]; rfl, h.2.2.2.2⟩, (zfr.rf.fl (by decide) (Or.inr rfl)).si (by decide) (by decide)⟩)
    · refine jr_iconst hg (nI 1) dX8_setOdds_22 (by decide) ?_
      refine jr_goto (tgt := 27) hg dX8_setOdds_23 (by decide) ?_
      refine pf_X8_249 hg (by first | exact Or.inl rfl | exact Or.inr rfl | exact z01 _) (hI 35 (by decide)) dX8_setOdds_27 ?_
      refine jr_aload_n hg 0 rfl rfl dX8_setOdds_30 ?_
      refine gf_X8_51 hg (hI 35 (by decide)) dX8_setOdds_31 ?_
      refine jr_iconst hg (nI 3) dX8_setOdds_34 (by decide) ?_
      refine jr_iload_n hg 1 rfl rfl dX8_setOdds_35 ?_
      refine jr_imulN hg dX8_setOdds_36 ?_
      refine jr_iload_n hg 2 rfl rfl dX8_setOdds_37 ?_
      refine jr_iaddN hg dX8_setOdds_38 ?_
      refine jr_iload_n hg 3 rfl rfl dX8_setOdds_39 ?_
      refine jr_iastN hg (n := 72) (by omega) (by decide) (hI 48 (by decide)) (ac_48) dX8_setOdds_40 ?_
      exact jr_vret hg rfl dX8_setOdds_41 (⟨rfl, ⟨zrow_up h.1, h.2.1, h.2.2.1, by rw [zne_t h19]; rfl, h.2.2.2.2⟩, (zfr.rf.fl (by decide) (Or.inr rfl)).si (by decide) (by decide)⟩)

theorem c_setOddsm {E : mm_E} (hI : mm_FR E) {M : mm_M} {n o t y : Nat → Nat} {r : Nat} {b : Bool} {p k j v : Nat} (h : zR_r (z_mix n o j) t y r (b || z_df o n j) M) (hp : p < 24) (hk : k < 3) (e : j = 3 * p + k) (hv : v = n j) (hn : n j < 2 ^ 31) (ho : o j < 2 ^ 31) : mm_Cal E mX8_setOdds [.ref (E.1 35), .int (nI p), .int (nI k), .int (nI v)] M (fun q0 M' => q0 = none ∧ zR_r (z_mix n o (j + 1)) t y r (b || z_df o n (j + 1)) M' ∧ zfr [35, 48] M M') := by
  subst e; subst hv
  refine (c_X8_setOdds hI h hp hk hn (by rw [z_mix_at]; exact ho)).to (fun q0 M' k => ⟨k.1, ?_, k.2.2⟩)
  have k2 := k.2.1
  rw [z_mix_s, z_df_s] at k2
  exact k2

set_option maxRecDepth 100000 in
theorem c_X8_findOdds {E : mm_E} (hI : mm_FR E) {M : mm_M} {s : zS} (Rp : zR_p s M) (Rk : zR_k s M) (Wp : zW_p s) (Wk : zW_k s) (Wo : zW_o s) (h8 : s 0 1 ≤ 8) {r p : Nat} {b : Bool} (hp : p < s 0 0) (hX0 : zR_r (z_mix (z_o1 s) (s 12) (3 * p)) (s 13) (s 14) r (b || z_df (s 12) (z_o1 s) (3 * p)) M) : mm_Cal E mX8_findOdds [.ref (E.1 35), .int (nI p)] M (fun q M' => q = none ∧ zR_r (z_mix (z_o1 s) (s 12) (3 * p + 3)) (s 13) (s 14) r (b || z_df (s 12) (z_o1 s) (3 * p + 3)) M' ∧ zfr [35, 48, 51, 52] M M') := by
  have hnp := Wp.1
  have hnk := Wk.1
  have hl : ∀ j, j < 72 → z_o1 s j < 2 ^ 31 := fun j hj => Nat.lt_of_le_of_lt (z_o1_le Wk Wo h8 j hj) (by decide)
  have hq : ∀ j, j < 72 → s 12 j < 2 ^ 31 := fun j hj => Nat.lt_of_le_of_lt (Wo.1 j hj) (by decide)
  have hcs := z_cs_pos Wk Wo h8 p
  have hcp := hcs.1
  have h3 := z_sr3 hcp
  have hkp := (Wp.2 p hp).1
  have hkn := (Wp.2 p hp).2.2.2.1
  have hS3 : (zsum (fun q => z_ch s p q (s 0 2)) 3) = z_cs s p := by simp only [zsum, z_cs]; omega
  refine jr_entry RX8 (by decide +kernel) (Nat.le_of_ble_eq_true rfl) (fun g hg => ?_)
  refine jr_lv (lv' := [(0, .ref (E.1 35)), (1, .int (nI p))]) [0, 1] rfl ?_
  refine jr_aload_n hg 0 rfl rfl dX8_findOdds_0 ?_
  refine gf_X8_32 hg (hI 35 (by decide)) dX8_findOdds_1 ?_
  refine jr_iload_n hg 1 rfl rfl dX8_findOdds_4 ?_
  refine jr_zaldN hg (n := 24) (by omega) (by decide) (hI 42 (by decide)) (ac_42 _ _) dX8_findOdds_5 ?_
  refine jr_top ((Rp.2 _ (by omega)).2.2.2.1) ?_
  refine jr_if_eqN (tgt := 46) hg dX8_findOdds_6 (by decide) (by omega) (fun h6 => ?_) (fun h6 => ?_)
  · have h4 : s 4 p ≠ 1 := by omega
    refine jr_lconst hg (lN 0) dX8_findOdds_46 (by decide) ?_
    refine jr_lstore_n hg dX8_findOdds_47 rfl (by decide) rfl ?_
    refine jr_iconst hg (nI 0) dX8_findOdds_48 (by decide) ?_
    refine jr_istore hg dX8_findOdds_49 (by decide) rfl ?_
    have lp51 : ∀ k : Nat, k ≤ 3 → ∀ M1, (∀ j, j < k → M1.2 51 j = lN (z_ch s p j (s 0 2))) → zfr [51] M M1 → mm_J g E mX8_findOdds (fun q M' => q = none ∧ zR_r (z_mix (z_o1 s) (s 12) (3 * p + 3)) (s 13) (s 14) r (b || z_df (s 12) (z_o1 s) (3 * p + 3)) M' ∧ zfr [35, 48, 51, 52] M M') 51 [(0, .ref (E.1 35)), (1, .int (nI p)), (2, .long (lN ((zsum (fun q => z_ch s p q (s 0 2)) k)))), (4, .int (nI k))] [] (M1) := by
      refine jr_up (S := fun k => ∀ M1, (∀ j, j < k → M1.2 51 j = lN (z_ch s p j (s 0 2))) → zfr [51] M M1 → mm_J g E mX8_findOdds (fun q M' => q = none ∧ zR_r (z_mix (z_o1 s) (s 12) (3 * p + 3)) (s 13) (s 14) r (b || z_df (s 12) (z_o1 s) (3 * p + 3)) M' ∧ zfr [35, 48, 51, 52] M M') 51 [(0, .ref (E.1 35)), (1, .int (nI p)), (2, .long (lN ((zsum (fun q => z_ch s p q (s 0 2)) k)))), (4, .int (nI k))] [] (M1)) (n := 3) ?_ ?_
      · intro M1 hpo hs2
        show mm_J g E mX8_findOdds (fun q M' => q = none ∧ zR_r (z_mix (z_o1 s) (s 12) (3 * p + 3)) (s 13) (s 14) r (b || z_df (s 12) (z_o1 s) (3 * p + 3)) M' ∧ zfr [35, 48, 51, 52] M M') 51 [(0, .ref (E.1 35)), (1, .int (nI p)), (2, .long (lN ((zsum (fun q => z_ch s p q (s 0 2)) (3))))), (4, .int (nI (3)))] [] (M1)
        refine jr_iload hg 3 rfl dX8_findOdds_51 ?_
        refine jr_iconst hg (nI 3) dX8_findOdds_53 (by decide) ?_
        refine jr_icmp_geN (tgt := 169) hg dX8_findOdds_54 (by decide) (by omega) (by omega) (fun h54 => ?_) (fun h => by omega)
        refine jr_sipush hg (nI 1000) dX8_findOdds_169 (by decide) ?_
        refine jr_istore hg dX8_findOdds_172 (by decide) rfl ?_
        refine jr_iconst hg (nI 0) dX8_findOdds_174 (by decide) ?_
        refine jr_istore hg dX8_findOdds_175 (by decide) rfl ?_
        refine jr_iconst hg (nI 0) dX8_findOdds_177 (by decide) ?_
        refine jr_istore hg dX8_findOdds_178 (by decide) rfl ?_
        have lp180 : ∀ k : Nat, k ≤ 3 → ∀ M3, (∀ j, j < k → M3.1 52 j = nI (z_sr s p j)) → (∀ j, j < 3 → M3.2 51 j = lN (z_ch s p j (s 0 2))) → zfr [51, 52] M M3 → mm_J g E mX8_findOdds (fun q M' => q = none ∧ zR_r (z_mix (z_o1 s) (s 12) (3 * p + 3)) (s 13) (s 14) r (b || z_df (s 12) (z_o1 s) (3 * p + 3)) M' ∧ zfr [35, 48, 51, 52] M M') 180 [(0, .ref (E.1 35)), (1, .int (nI p)), (2, .long (lN ((zsum (fun q => z_ch s p q (s 0 2)) 3)))), (4, .int (nI ((1000 - (zsum (z_sr s p) k))))), (5, .int (nI ((z_bk (z_sr s p) k)))), (6, .int (nI k))] [] (M3) := by
          refine jr_up (S := fun k => ∀ M3, (∀ j, j < k → M3.1 52 j = nI (z_sr s p j)) → (∀ j, j < 3 → M3.2 51 j = lN (z_ch s p j (s 0 2))) → zfr [51, 52] M M3 → mm_J g E mX8_findOdds (fun q M' => q = none ∧ zR_r (z_mix (z_o1 s) (s 12) (3 * p + 3)) (s 13) (s 14) r (b || z_df (s 12) (z_o1 s) (3 * p + 3)) M' ∧ zfr [35, 48, 51, 52] M M') 180 [(0, .ref (E.1 35)), (1, .int (nI p)), (2, .long (lN ((zsum (fun q => z_ch s p q (s 0 2)) 3)))), (4, .int (nI ((1000 - (zsum (z_sr s p) k))))), (5, .int (nI ((z_bk (z_sr s p) k)))), (6, .int (nI k))] [] (M3)) (n := 3) ?_ ?_
          · intro M3 hsr hch hs3
            show mm_J g E mX8_findOdds (fun q M' => q = none ∧ zR_r (z_mix (z_o1 s) (s 12) (3 * p + 3)) (s 13) (s 14) r (b || z_df (s 12) (z_o1 s) (3 * p + 3)) M' ∧ zfr [35, 48, 51, 52] M M') 180 [(0, .ref (E.1 35)), (1, .int (nI p)), (2, .long (lN ((zsum (fun q => z_ch s p q (s 0 2)) 3)))), (4, .int (nI ((1000 - (zsum (z_sr s p) (3)))))), (5, .int (nI ((z_bk (z_sr s p) (3))))), (6, .int (nI (3)))] [] (M3)
            refine jr_iload hg 5 rfl dX8_findOdds_180 ?_
            refine jr_iconst hg (nI 3) dX8_findOdds_182 (by decide) ?_
            refine jr_icmp_geN (tgt := 251) hg dX8_findOdds_183 (by decide) (by omega) (by omega) (fun h183 => ?_) (fun h => by omega)
            have hb3 := z_bk_3 (z_sr s p)
            have hbl : z_bk (z_sr s p) 3 < 3 := by rw [hb3, z_b3]; split; decide; split <;> decide
            have hs0 : (zsum (z_sr s p) 3) = z_sr s p 0 + z_sr s p 1 + z_sr s p 2 := by simp only [zsum]; omega
            refine jr_aload_n hg 0 rfl rfl dX8_findOdds_251 ?_
            refine gf_X8_64 hg (hI 35 (by decide)) dX8_findOdds_252 ?_
            refine jr_iload hg 4 rfl dX8_findOdds_255 ?_
            refine jr_dup2 hg dX8_findOdds_257 rfl rfl ?_
            refine jr_ialdN hg (n := 3) (by omega) (by decide) (hI 52 (by decide)) (ac_52 _ _) dX8_findOdds_258 ?_
            refine jr_top (hsr _ hbl) ?_
            refine jr_iload hg 3 rfl dX8_findOdds_259 ?_
            refine jr_iaddN hg dX8_findOdds_261 ?_
            refine jr_iastN hg (n := 3) (by omega) (by decide) (hI 52 (by decide)) (ac_52) dX8_findOdds_262 ?_
            have hod : ∀ j, j < 3 → upd (M3.1 52) (z_bk (z_sr s p) 3) (nI (z_sr s p (z_bk (z_sr s p) 3) + (1000 - (zsum (z_sr s p) 3)))) j = nI (z_od s p j) := by
              intro j hj
              rw [z_od, if_neg h4, ← hb3]
              by_cases e : j = (z_bk (z_sr s p) 3)
              · rw [e, upd_s, if_pos rfl, hs0]; congr 2; omega
              · rw [upd_n e, if_neg e, hsr j hj]; rfl
            refine jr_iconst hg (nI 0) dX8_findOdds_263 (by decide) ?_
            refine jr_istore hg dX8_findOdds_264 (by decide) rfl ?_
            have lp266 : ∀ k : Nat, k ≤ 3 → ∀ M4, zR_r (z_mix (z_o1 s) (s 12) (3 * p + k)) (s 13) (s 14) r (b || z_df (s 12) (z_o1 s) (3 * p + k)) M4 → (∀ j, j < 3 → M4.1 52 j = nI (z_od s p j)) → zfr [35, 48, 51, 52] M M4 → mm_J g E mX8_findOdds (fun q M' => q = none ∧ zR_r (z_mix (z_o1 s) (s 12) (3 * p + 3)) (s 13) (s 14) r (b || z_df (s 12) (z_o1 s) (3 * p + 3)) M' ∧ zfr [35, 48, 51, 52] M M') 266 [(0, .ref (E.1 35)), (1, .int (nI p)), (6, .int (nI k))] [] (M4) := by
              refine jr_up (S := fun k => ∀ M4, zR_r (z_mix (z_o1 s) (s 12) (3 * p + k)) (s 13) (s 14) r (b || z_df (s 12) (z_o1 s) (3 * p + k)) M4 → (∀ j, j < 3 → M4.1 52 j = nI (z_od s p j)) → zfr [35, 48, 51, 52] M M4 → mm_J g E mX8_findOdds (fun q M' => q = none ∧ zR_r (z_mix (z_o1 s) (s 12) (3 * p + 3)) (s 13) (s 14) r (b || z_df (s 12) (z_o1 s) (3 * p + 3)) M' ∧ zfr [35, 48, 51, 52] M M') 266 [(0, .ref (E.1 35)), (1, .int (nI p)), (6, .int (nI k))] [] (M4)) (n := 3) ?_ ?_
              · intro M4 hx4 hod4 hs4
                show mm_J g E mX8_findOdds (fun q M' => q = none ∧ zR_r (z_mix (z_o1 s) (s 12) (3 * p + 3)) (s 13) (s 14) r (b || z_df (s 12) (z_o1 s) (3 * p + 3)) M' ∧ zfr [35, 48, 51, 52] M M') 266 [(0, .ref (E.1 35)), (1, .int (nI p)), (6, .int (nI (3)))] [] (M4)
                refine jr_iload hg 2 rfl dX8_findOdds_266 ?_
                refine jr_iconst hg (nI 3) dX8_findOdds_268 (by decide) ?_
                refine jr_icmp_geN (tgt := 292) hg dX8_findOdds_269 (by decide) (by omega) (by omega) (fun h269 => ?_) (fun h => by omega)
                exact jr_vret hg rfl dX8_findOdds_292 (⟨rfl, hx4, hs4⟩)
              · intro k hk ih4 M4 hx4 hod4 hs4
                show mm_J g E mX8_findOdds (fun q M' => q = none ∧ zR_r (z_mix (z_o1 s) (s 12) (3 * p + 3)) (s 13) (s 14) r (b || z_df (s 12) (z_o1 s) (3 * p + 3)) M' ∧ zfr [35, 48, 51, 52] M M') 266 [(0, .ref (E.1 35)), (1, .int (nI p)), (6, .int (nI k))] [] (M4)
                have hk3 : k < 3 := hk
                refine jr_iload hg 2 rfl dX8_findOdds_266 ?_
                refine jr_iconst hg (nI 3) dX8_findOdds_268 (by decide) ?_
                refine jr_icmp_geN (tgt := 292) hg dX8_findOdds_269 (by decide) (by omega) (by omega) (fun h => by omega) (fun h269 => ?_)
                refine jr_aload_n hg 0 rfl rfl dX8_findOdds_272 ?_
                refine jr_iload_n hg 1 rfl rfl dX8_findOdds_273 ?_
                refine jr_iload hg 2 rfl dX8_findOdds_274 ?_
                refine jr_aload_n hg 0 rfl rfl dX8_findOdds_276 ?_
                refine gf_X8_64 hg (hI 35 (by decide)) dX8_findOdds_277 ?_
                refine jr_iload hg 2 rfl dX8_findOdds_280 ?_
                refine jr_ialdN hg (n := 3) (by omega) (by decide) (hI 52 (by decide)) (ac_52 _ _) dX8_findOdds_282 ?_
                refine jr_top (hod4 k hk3) ?_
                refine jr_cV3p hg lk_X8_253 (hI 35 (by decide)) rfl rfl (by decide) (by decide) (Nat.le_of_ble_eq_true rfl) dX8_findOdds_283 (c_setOddsm hI (j := 3 * p + k) hx4 (by omega) hk3 rfl (z_o1_at hp hk3).symm (hl _ (by omega)) (hq _ (by omega))) (fun r M' h => ?_)
                obtain ⟨rfl, x, f⟩ := h
                refine jr_st (show _ = [] from rfl) ?_
                refine jr_iinc hg 2 rfl (nI (_ + 1)) (nI_1 _) dX8_findOdds_286 (by decide) rfl ?_
                refine jr_goto (tgt := 266) hg dX8_findOdds_289 (by decide) ?_
                exact jr_lv [1, 2, 0] rfl (ih4 _ x (fun j hj => by rw [(f.1 52 (by decide)).1]; exact hod4 j hj) (hs4.tr (f.wk (by decide))))
            exact jr_lv [1, 2, 0] rfl (lp266 0 (by omega) _ (zR_r_c (by show M3.1 35 = _; rw [(hs3.1 35 (by decide)).1]) (((hs3.si (by decide) (by decide) : zfr [51, 52] M _).1).at (by decide)) hX0) hod ((hs3.si (by decide) (by decide) : zfr [51, 52] M _).wk (by decide)))
          · intro k hk ih3 M3 hsr hch hs3
            show mm_J g E mX8_findOdds (fun q M' => q = none ∧ zR_r (z_mix (z_o1 s) (s 12) (3 * p + 3)) (s 13) (s 14) r (b || z_df (s 12) (z_o1 s) (3 * p + 3)) M' ∧ zfr [35, 48, 51, 52] M M') 180 [(0, .ref (E.1 35)), (1, .int (nI p)), (2, .long (lN ((zsum (fun q => z_ch s p q (s 0 2)) 3)))), (4, .int (nI ((1000 - (zsum (z_sr s p) k))))), (5, .int (nI ((z_bk (z_sr s p) k)))), (6, .int (nI k))] [] (M3)
            have hk3 : k < 3 := hk
            have hcb := z_ch_b Wk Wo (p := p) hk3 h8
            refine jr_iload hg 5 rfl dX8_findOdds_180 ?_
            refine jr_iconst hg (nI 3) dX8_findOdds_182 (by decide) ?_
            refine jr_icmp_geN (tgt := 251) hg dX8_findOdds_183 (by decide) (by omega) (by omega) (fun h => by omega) (fun h183 => ?_)
            refine jr_aload_n hg 0 rfl rfl dX8_findOdds_186 ?_
            refine gf_X8_64 hg (hI 35 (by decide)) dX8_findOdds_187 ?_
            refine jr_iload hg 5 rfl dX8_findOdds_190 ?_
            refine jr_aload_n hg 0 rfl rfl dX8_findOdds_192 ?_
            refine gf_X8_60 hg (hI 35 (by decide)) dX8_findOdds_193 ?_
            refine jr_iload hg 5 rfl dX8_findOdds_196 ?_
            refine jr_laldN hg (n := 3) (by omega) (by decide) (hI 51 (by decide)) (ac_51 _ _) dX8_findOdds_198 ?_
            refine jr_topl (hch k hk3) ?_
            refine jr_ldc2 hg wm_36_8 dX8_findOdds_199 ?_
            refine jr_topl (show (1000 : Int64) = lN 1000 by decide) ?_
            refine jr_lmul hg dX8_findOdds_202 ?_
            refine jr_topl (lN_mul _ _) ?_
            refine jr_lload_n hg 2 rfl rfl dX8_findOdds_203 ?_
            refine jr_ldiv hg dX8_findOdds_204 (lN_ne0 (by rw [hS3]; exact hcp) (by rw [hS3]; omega)) ?_
            refine jr_topl ((pk_lDiv (by omega) (by rw [hS3]; exact hcp) (by rw [hS3]; omega)).trans (show _ = lN (z_sr s p k) by rw [hS3]; rfl)) ?_
            refine jr_l2i hg (nI _) dX8_findOdds_205 (lN_i _) ?_
            refine jr_iastN hg (n := 3) (by omega) (by decide) (hI 52 (by decide)) (ac_52) dX8_findOdds_206 ?_
            have hsh : ∀ j, j < k + 1 → upd (M3.1 52) k (nI (z_sr s p k)) j = nI (z_sr s p j) := fun j hj => by by_cases e : j = k; rw [e, upd_s]; rw [upd_n e]; exact hsr j (by omega)
            have hbk := z_bk_le (z_sr s p) k
            have hsk := z_sr_le hcp (p := p) hk3
            have hsb := z_sr_le hcp (p := p) (k := z_bk (z_sr s p) k) (by omega)
            have hss : (zsum (z_sr s p) k) + z_sr s p k ≤ 1000 := by rcases (show k = 0 ∨ k = 1 ∨ k = 2 by omega) with w | w | w <;> subst w <;> simp only [zsum] <;> omega
            refine jr_iload hg 3 rfl dX8_findOdds_207 ?_
            refine jr_aload_n hg 0 rfl rfl dX8_findOdds_209 ?_
            refine gf_X8_64 hg (hI 35 (by decide)) dX8_findOdds_210 ?_
            refine jr_iload hg 5 rfl dX8_findOdds_213 ?_
            refine jr_ialdN hg (n := 3) (by omega) (by decide) (hI 52 (by decide)) (ac_52 _ _) dX8_findOdds_215 ?_
            refine jr_top (hsh k (by omega)) ?_
            refine jr_isubN hg dX8_findOdds_216 (by omega) ?_
            refine jr_istore hg dX8_findOdds_217 (by decide) rfl ?_
            refine jr_aload_n hg 1 rfl rfl dX8_findOdds_219 ?_
            refine gf_X8_64 hg (hI 35 (by decide)) dX8_findOdds_220 ?_
            refine jr_iload hg 5 rfl dX8_findOdds_223 ?_
            refine jr_ialdN hg (n := 3) (by omega) (by decide) (hI 52 (by decide)) (ac_52 _ _) dX8_findOdds_225 ?_
            refine jr_top (hsh k (by omega)) ?_
            refine jr_aload_n hg 1 rfl rfl dX8_findOdds_226 ?_
            refine gf_X8_64 hg (hI 35 (by decide)) dX8_findOdds_227 ?_
            refine jr_iload hg 4 rfl dX8_findOdds_230 ?_
            refine jr_ialdN hg (n := 3) (by omega) (by decide) (hI 52 (by decide)) (ac_52 _ _) dX8_findOdds_232 ?_
            refine jr_top (hsh _ (by omega)) ?_
            refine jr_icmp_leN (tgt := 241) hg dX8_findOdds_233 (by decide) (by omega) (by omega) (fun h233 => ?_) (fun h233 => ?_)
            · refine jr_iload hg 4 rfl dX8_findOdds_241 ?_
              refine jr_istore hg dX8_findOdds_243 (by decide) rfl ?_
              refine jr_iinc hg 5 rfl (nI (_ + 1)) (nI_1 _) dX8_findOdds_245 (by decide) rfl ?_
              refine jr_goto (tgt := 180) hg dX8_findOdds_248 (by decide) ?_
              have e1 : z_bk (z_sr s p) (k + 1) = z_bk (z_sr s p) k := by rw [z_bk, if_neg (by omega)]
              have e2 : 1000 - (zsum (z_sr s p) (k + 1)) = 1000 - (zsum (z_sr s p) k) - z_sr s p k := by rw [zsum_s]; omega
              rw [e1, e2] at ih3
              exact jr_lv [3, 4, 5, 2, 1, 0] rfl (ih3 _ hsh hch (hs3.si (by decide) (by decide)))
            · refine jr_iload hg 5 rfl dX8_findOdds_236 ?_
              refine jr_goto (tgt := 243) hg dX8_findOdds_238 (by decide) ?_
              refine jr_istore hg dX8_findOdds_243 (by decide) rfl ?_
              refine jr_iinc hg 5 rfl (nI (_ + 1)) (nI_1 _) dX8_findOdds_245 (by decide) rfl ?_
              refine jr_goto (tgt := 180) hg dX8_findOdds_248 (by decide) ?_
              have e1 : z_bk (z_sr s p) (k + 1) = k := by rw [z_bk, if_pos h233]
              have e2 : 1000 - (zsum (z_sr s p) (k + 1)) = 1000 - (zsum (z_sr s p) k) - z_sr s p k := by rw [zsum_s]; omega
              rw [e1, e2] at ih3
              exact jr_lv [3, 4, 5, 2, 1, 0] rfl (ih3 _ hsh hch (hs3.si (by decide) (by decide)))
        exact jr_lv [3, 4, 5, 2, 1, 0] rfl (lp180 0 (by omega) M1 (fun j hj => by omega) hpo (hs2.wk (by decide)))
      · intro k hk ih M1 hpo hs2
        show mm_J g E mX8_findOdds (fun q M' => q = none ∧ zR_r (z_mix (z_o1 s) (s 12) (3 * p + 3)) (s 13) (s 14) r (b || z_df (s 12) (z_o1 s) (3 * p + 3)) M' ∧ zfr [35, 48, 51, 52] M M') 51 [(0, .ref (E.1 35)), (1, .int (nI p)), (2, .long (lN ((zsum (fun q => z_ch s p q (s 0 2)) k)))), (4, .int (nI k))] [] (M1)
        have hk3 : k < 3 := hk
        have hx1 : zR_r (z_mix (z_o1 s) (s 12) (3 * p)) (s 13) (s 14) r (b || z_df (s 12) (z_o1 s) (3 * p)) M1 := zR_r_c (hs2.1 35 (by decide)).1 (hs2.1.at (by decide)) hX0
        have hyk := Wo.2.2.1 k hk3
        refine jr_iload hg 3 rfl dX8_findOdds_51 ?_
        refine jr_iconst hg (nI 3) dX8_findOdds_53 (by decide) ?_
        refine jr_icmp_geN (tgt := 169) hg dX8_findOdds_54 (by decide) (by omega) (by omega) (fun h => by omega) (fun h54 => ?_)
        refine jr_aload_n hg 0 rfl rfl dX8_findOdds_57 ?_
        refine gf_X8_60 hg (hI 35 (by decide)) dX8_findOdds_58 ?_
        refine jr_iload hg 3 rfl dX8_findOdds_61 ?_
        refine jr_aload_n hg 0 rfl rfl dX8_findOdds_63 ?_
        refine gf_X8_57 hg (hI 35 (by decide)) dX8_findOdds_64 ?_
        refine jr_iload hg 3 rfl dX8_findOdds_67 ?_
        refine jr_ialdN hg (n := 3) (by omega) (by decide) (hI 50 (by decide)) (ac_50 _ _) dX8_findOdds_69 ?_
        refine jr_top (hx1.2.2.1 k hk3) ?_
        refine jr_i2l hg (lN _) dX8_findOdds_70 (nI_l (by omega)) ?_
        refine jr_lastN hg (n := 3) (by omega) (by decide) (hI 51 (by decide)) (ac_51) dX8_findOdds_71 ?_
        refine jr_iconst hg (nI 0) dX8_findOdds_72 (by decide) ?_
        refine jr_istore hg dX8_findOdds_73 (by decide) rfl ?_
        refine jr_iconst hg (nI 0) dX8_findOdds_75 (by decide) ?_
        refine jr_istore hg dX8_findOdds_76 (by decide) rfl ?_
        have lp78 : ∀ x : Nat, x ≤ s 0 2 → ∀ M2, M2.2 51 k = lN (z_ch s p k x) → (∀ j, j < k → M2.2 51 j = lN (z_ch s p j (s 0 2))) → zfr [51] M M2 → mm_J g E mX8_findOdds (fun q M' => q = none ∧ zR_r (z_mix (z_o1 s) (s 12) (3 * p + 3)) (s 13) (s 14) r (b || z_df (s 12) (z_o1 s) (3 * p + 3)) M' ∧ zfr [35, 48, 51, 52] M M') 78 [(0, .ref (E.1 35)), (1, .int (nI p)), (2, .long (lN ((zsum (fun q => z_ch s p q (s 0 2)) k)))), (4, .int (nI k)), (5, .int (nI ((zcnt (z_of s p) x)))), (6, .int (nI x))] [] (M2) := by
          refine jr_up (S := fun x => ∀ M2, M2.2 51 k = lN (z_ch s p k x) → (∀ j, j < k → M2.2 51 j = lN (z_ch s p j (s 0 2))) → zfr [51] M M2 → mm_J g E mX8_findOdds (fun q M' => q = none ∧ zR_r (z_mix (z_o1 s) (s 12) (3 * p + 3)) (s 13) (s 14) r (b || z_df (s 12) (z_o1 s) (3 * p + 3)) M' ∧ zfr [35, 48, 51, 52] M M') 78 [(0, .ref (E.1 35)), (1, .int (nI p)), (2, .long (lN ((zsum (fun q => z_ch s p q (s 0 2)) k)))), (4, .int (nI k)), (5, .int (nI ((zcnt (z_of s p) x)))), (6, .int (nI x))] [] (M2)) (n := s 0 2) ?_ ?_
          · intro M2 hpx hpo hs2
            show mm_J g E mX8_findOdds (fun q M' => q = none ∧ zR_r (z_mix (z_o1 s) (s 12) (3 * p + 3)) (s 13) (s 14) r (b || z_df (s 12) (z_o1 s) (3 * p + 3)) M' ∧ zfr [35, 48, 51, 52] M M') 78 [(0, .ref (E.1 35)), (1, .int (nI p)), (2, .long (lN ((zsum (fun q => z_ch s p q (s 0 2)) k)))), (4, .int (nI k)), (5, .int (nI ((zcnt (z_of s p) (s 0 2))))), (6, .int (nI (s 0 2)))] [] (M2)
            have hcn := zcnt_le (z_of s p) (s 0 2)
            refine jr_iload hg 5 rfl dX8_findOdds_78 ?_
            refine jr_aload_n hg 0 rfl rfl dX8_findOdds_80 ?_
            refine gf_X8_174 hg (hI 35 (by decide)) dX8_findOdds_81 ?_
            refine jr_top ((zfr_k (hs2.wk (by decide)) Rk).1) ?_
            refine jr_icmp_geN (tgt := 153) hg dX8_findOdds_84 (by decide) (by omega) (by omega) (fun h84 => ?_) (fun h => by omega)
            have hpk : M2.2 51 k = lN (z_ch s p k (s 0 2)) := hpx
            refine jr_lload_n hg 2 rfl rfl dX8_findOdds_153 ?_
            refine jr_aload_n hg 0 rfl rfl dX8_findOdds_154 ?_
            refine gf_X8_60 hg (hI 35 (by decide)) dX8_findOdds_155 ?_
            refine jr_iload hg 3 rfl dX8_findOdds_158 ?_
            refine jr_laldN hg (n := 3) (by omega) (by decide) (hI 51 (by decide)) (ac_51 _ _) dX8_findOdds_160 ?_
            refine jr_topl (hpk) ?_
            refine jr_ladd hg dX8_findOdds_161 ?_
            refine jr_topl (lN_add _ _) ?_
            refine jr_lstore_n hg dX8_findOdds_162 rfl (by decide) rfl ?_
            refine jr_iinc hg 3 rfl (nI (_ + 1)) (nI_1 _) dX8_findOdds_163 (by decide) rfl ?_
            refine jr_goto (tgt := 51) hg dX8_findOdds_166 (by decide) ?_
            exact jr_lv [2, 3, 1, 0] rfl (ih M2 (fun j hj => by by_cases e : j = k; subst e; exact hpk; exact hpo j (by omega)) hs2)
          · intro x hx ih2 M2 hpx hpo hs2
            show mm_J g E mX8_findOdds (fun q M' => q = none ∧ zR_r (z_mix (z_o1 s) (s 12) (3 * p + 3)) (s 13) (s 14) r (b || z_df (s 12) (z_o1 s) (3 * p + 3)) M' ∧ zfr [35, 48, 51, 52] M M') 78 [(0, .ref (E.1 35)), (1, .int (nI p)), (2, .long (lN ((zsum (fun q => z_ch s p q (s 0 2)) k)))), (4, .int (nI k)), (5, .int (nI ((zcnt (z_of s p) x)))), (6, .int (nI x))] [] (M2)
            have hx1 : zR_r (z_mix (z_o1 s) (s 12) (3 * p)) (s 13) (s 14) r (b || z_df (s 12) (z_o1 s) (3 * p)) M2 := zR_r_c (hs2.1 35 (by decide)).1 (hs2.1.at (by decide)) hX0
            have hcn := zcnt_le (z_of s p) x
            have hlo := Wk.2.1 x hx
            have ht := Wo.2.1 (12 * s 7 x + 4 * k + s 9 x) (by omega)
            refine jr_iload hg 5 rfl dX8_findOdds_78 ?_
            refine jr_aload_n hg 0 rfl rfl dX8_findOdds_80 ?_
            refine gf_X8_174 hg (hI 35 (by decide)) dX8_findOdds_81 ?_
            refine jr_top ((zfr_k (hs2.wk (by decide)) Rk).1) ?_
            refine jr_icmp_geN (tgt := 153) hg dX8_findOdds_84 (by decide) (by omega) (by omega) (fun h => by omega) (fun h84 => ?_)
            refine jr_iload hg 4 rfl dX8_findOdds_87 ?_
            refine jr_bipush hg (nI 6) dX8_findOdds_89 (by decide) ?_
            refine jr_icmp_geN (tgt := 153) hg dX8_findOdds_91 (by decide) (by omega) (by omega) (fun h91 => ?_) (fun h91 => ?_)
            · have hpk : M2.2 51 k = lN (z_ch s p k (s 0 2)) := by rw [z_ch_full (by omega) (s 0 2) (by omega)]; exact hpx
              refine jr_lload_n hg 2 rfl rfl dX8_findOdds_153 ?_
              refine jr_aload_n hg 0 rfl rfl dX8_findOdds_154 ?_
              refine gf_X8_60 hg (hI 35 (by decide)) dX8_findOdds_155 ?_
              refine jr_iload hg 3 rfl dX8_findOdds_158 ?_
              refine jr_laldN hg (n := 3) (by omega) (by decide) (hI 51 (by decide)) (ac_51 _ _) dX8_findOdds_160 ?_
              refine jr_topl (hpk) ?_
              refine jr_ladd hg dX8_findOdds_161 ?_
              refine jr_topl (lN_add _ _) ?_
              refine jr_lstore_n hg dX8_findOdds_162 rfl (by decide) rfl ?_
              refine jr_iinc hg 3 rfl (nI (_ + 1)) (nI_1 _) dX8_findOdds_163 (by decide) rfl ?_
              refine jr_goto (tgt := 51) hg dX8_findOdds_166 (by decide) ?_
              exact jr_lv [2, 3, 1, 0] rfl (ih M2 (fun j hj => by by_cases e : j = k; subst e; exact hpk; exact hpo j (by omega)) hs2)
            · refine jr_aload_n hg 0 rfl rfl dX8_findOdds_94 ?_
              refine gf_X8_45 hg (hI 35 (by decide)) dX8_findOdds_95 ?_
              refine jr_iload hg 5 rfl dX8_findOdds_98 ?_
              refine jr_ialdN hg (n := 200) (by omega) (by decide) (hI 46 (by decide)) (ac_46 _ _) dX8_findOdds_100 ?_
              refine jr_top (((zfr_k (hs2.wk (by decide)) Rk).2 _ (by omega)).2.1) ?_
              refine jr_iload_n hg 1 rfl rfl dX8_findOdds_101 ?_
              refine jr_icmp_neN (tgt := 147) hg dX8_findOdds_102 (by decide) (by omega) (by omega) (fun h102 => ?_) (fun h102 => ?_)
              · refine jr_iinc hg 5 rfl (nI (_ + 1)) (nI_1 _) dX8_findOdds_147 (by decide) rfl ?_
                refine jr_goto (tgt := 78) hg dX8_findOdds_150 (by decide) ?_
                have e1 : z_ch s p k (x + 1) = z_ch s p k x := by rw [z_ch, if_neg (by simp [h102])]
                have e2 : zcnt (z_of s p) (x + 1) = zcnt (z_of s p) x := by rw [zcnt_s, z_of, show (s 8 x == p) = false by simp [h102]]; rfl
                rw [e1, e2] at ih2
                exact jr_lv [1, 2, 3, 4, 5, 0] rfl (ih2 M2 hpx hpo hs2)
              · refine jr_iinc hg 4 rfl (nI (_ + 1)) (nI_1 _) dX8_findOdds_105 (by decide) rfl ?_
                refine jr_aload_n hg 1 rfl rfl dX8_findOdds_108 ?_
                refine gf_X8_60 hg (hI 35 (by decide)) dX8_findOdds_109 ?_
                refine jr_iload hg 4 rfl dX8_findOdds_112 ?_
                refine jr_dup2 hg dX8_findOdds_114 rfl rfl ?_
                refine jr_laldN hg (n := 3) (by omega) (by decide) (hI 51 (by decide)) (ac_51 _ _) dX8_findOdds_115 ?_
                refine jr_topl (hpx) ?_
                refine jr_aload_n hg 1 rfl rfl dX8_findOdds_116 ?_
                refine gf_X8_54 hg (hI 35 (by decide)) dX8_findOdds_117 ?_
                refine jr_bipush hg (nI 12) dX8_findOdds_120 (by decide) ?_
                refine jr_aload_n hg 1 rfl rfl dX8_findOdds_122 ?_
                refine gf_X8_42 hg (hI 35 (by decide)) dX8_findOdds_123 ?_
                refine jr_iload hg 5 rfl dX8_findOdds_126 ?_
                refine jr_ialdN hg (n := 200) (by omega) (by decide) (hI 45 (by decide)) (ac_45 _ _) dX8_findOdds_128 ?_
                refine jr_top (((zfr_k (hs2.wk (by decide)) Rk).2 _ (by omega)).1) ?_
                refine jr_imulN hg dX8_findOdds_129 ?_
                refine jr_iconst hg (nI 4) dX8_findOdds_130 (by decide) ?_
                refine jr_iload hg 4 rfl dX8_findOdds_131 ?_
                refine jr_imulN hg dX8_findOdds_133 ?_
                refine jr_iaddN hg dX8_findOdds_134 ?_
                refine jr_aload_n hg 1 rfl rfl dX8_findOdds_135 ?_
                refine gf_X8_48 hg (hI 35 (by decide)) dX8_findOdds_136 ?_
                refine jr_iload hg 5 rfl dX8_findOdds_139 ?_
                refine jr_ialdN hg (n := 200) (by omega) (by decide) (hI 47 (by decide)) (ac_47 _ _) dX8_findOdds_141 ?_
                refine jr_top (((zfr_k (hs2.wk (by decide)) Rk).2 _ (by omega)).2.2) ?_
                refine jr_iaddN hg dX8_findOdds_142 ?_
                refine jr_ialdN hg (n := 96) (by omega) (by decide) (hI 49 (by decide)) (ac_49 _ _) dX8_findOdds_143 ?_
                refine jr_top (hx1.2.1 _ (by omega)) ?_
                refine jr_i2l hg (lN _) dX8_findOdds_144 (nI_l (by omega)) ?_
                refine jr_lmul hg dX8_findOdds_145 ?_
                refine jr_topl (lN_mul _ _) ?_
                refine jr_lastN hg (n := 3) (by omega) (by decide) (hI 51 (by decide)) (ac_51) dX8_findOdds_146 ?_
                refine jr_iinc hg 5 rfl (nI (_ + 1)) (nI_1 _) dX8_findOdds_147 (by decide) rfl ?_
                refine jr_goto (tgt := 78) hg dX8_findOdds_150 (by decide) ?_
                have e1 : z_ch s p k (x + 1) = z_ch s p k x * s 13 (12 * s 7 x + 4 * k + s 9 x) := by rw [z_ch, if_pos (by rw [z_co, h102, decide_eq_true h91]; simp)]
                have e2 : zcnt (z_of s p) (x + 1) = zcnt (z_of s p) x + 1 := by rw [zcnt_s, z_of, show (s 8 x == p) = true by simp [h102]]; rfl
                rw [e1, e2] at ih2
                exact jr_lv [2, 3, 4, 5, 1, 0] rfl (ih2 _ (by show vp_updL (M2.2 51) k _ k = _; rw [pk_uLs]) (fun j hj => by show vp_updL (M2.2 51) k _ j = _; rw [pk_uLn (by omega)]; exact hpo j hj) (hs2.sl (by decide)))
        exact jr_lv [2, 3, 4, 5, 1, 0] rfl (lp78 0 (by omega) _ (by show vp_updL (M1.2 51) k _ k = _; rw [pk_uLs]; rfl) (fun j hj => by show vp_updL (M1.2 51) k _ j = _; rw [pk_uLn (by omega)]; exact hpo j hj) (hs2.sl (by decide)))
    exact jr_lv [2, 3, 1, 0] rfl (lp51 0 (by omega) M (fun j hj => by omega) zfr.rf)
  · refine jr_iconst hg (nI 0) dX8_findOdds_9 (by decide) ?_
    refine jr_istore_n hg dX8_findOdds_10 rfl (by decide) rfl ?_
    have lp11 : ∀ k : Nat, k ≤ 3 → ∀ M1, zR_r (z_mix (z_o1 s) (s 12) (3 * p + k)) (s 13) (s 14) r (b || z_df (s 12) (z_o1 s) (3 * p + k)) M1 → zfr [35, 48, 51, 52] M M1 → mm_J g E mX8_findOdds (fun q M' => q = none ∧ zR_r (z_mix (z_o1 s) (s 12) (3 * p + 3)) (s 13) (s 14) r (b || z_df (s 12) (z_o1 s) (3 * p + 3)) M' ∧ zfr [35, 48, 51, 52] M M') 11 [(0, .ref (E.1 35)), (1, .int (nI p)), (2, .int (nI k))] [] (M1) := by
      refine jr_up (S := fun k => ∀ M1, zR_r (z_mix (z_o1 s) (s 12) (3 * p + k)) (s 13) (s 14) r (b || z_df (s 12) (z_o1 s) (3 * p + k)) M1 → zfr [35, 48, 51, 52] M M1 → mm_J g E mX8_findOdds (fun q M' => q = none ∧ zR_r (z_mix (z_o1 s) (s 12) (3 * p + 3)) (s 13) (s 14) r (b || z_df (s 12) (z_o1 s) (3 * p + 3)) M' ∧ zfr [35, 48, 51, 52] M M') 11 [(0, .ref (E.1 35)), (1, .int (nI p)), (2, .int (nI k))] [] (M1)) (n := 3) ?_ ?_
      · intro M1 hx1 hs
        show mm_J g E mX8_findOdds (fun q M' => q = none ∧ zR_r (z_mix (z_o1 s) (s 12) (3 * p + 3)) (s 13) (s 14) r (b || z_df (s 12) (z_o1 s) (3 * p + 3)) M' ∧ zfr [35, 48, 51, 52] M M') 11 [(0, .ref (E.1 35)), (1, .int (nI p)), (2, .int (nI (3)))] [] (M1)
        refine jr_iload_n hg 2 rfl rfl dX8_findOdds_11 ?_
        refine jr_iconst hg (nI 3) dX8_findOdds_12 (by decide) ?_
        refine jr_icmp_geN (tgt := 45) hg dX8_findOdds_13 (by decide) (by omega) (by omega) (fun h13 => ?_) (fun h => by omega)
        exact jr_vret hg rfl dX8_findOdds_45 (⟨rfl, hx1, hs⟩)
      · intro k hk ih M1 hx1 hs
        show mm_J g E mX8_findOdds (fun q M' => q = none ∧ zR_r (z_mix (z_o1 s) (s 12) (3 * p + 3)) (s 13) (s 14) r (b || z_df (s 12) (z_o1 s) (3 * p + 3)) M' ∧ zfr [35, 48, 51, 52] M M') 11 [(0, .ref (E.1 35)), (1, .int (nI p)), (2, .int (nI k))] [] (M1)
        have hk3 : k < 3 := hk
        have h4 : s 4 p = 1 := by have := (Wp.2 p hp).2.2.2.1; omega
        have hkd : M1.1 39 p = nI (s 1 p) := (congrFun (hs.1 39 (by decide)).1 p).trans (Rp.2 p hp).1
        refine jr_iload_n hg 2 rfl rfl dX8_findOdds_11 ?_
        refine jr_iconst hg (nI 3) dX8_findOdds_12 (by decide) ?_
        refine jr_icmp_geN (tgt := 45) hg dX8_findOdds_13 (by decide) (by omega) (by omega) (fun h => by omega) (fun h13 => ?_)
        refine jr_aload_n hg 0 rfl rfl dX8_findOdds_16 ?_
        refine jr_iload_n hg 1 rfl rfl dX8_findOdds_17 ?_
        refine jr_iload_n hg 2 rfl rfl dX8_findOdds_18 ?_
        refine jr_iload_n hg 2 rfl rfl dX8_findOdds_19 ?_
        refine jr_aload_n hg 0 rfl rfl dX8_findOdds_20 ?_
        refine gf_X8_23 hg (hI 35 (by decide)) dX8_findOdds_21 ?_
        refine jr_iload_n hg 1 rfl rfl dX8_findOdds_24 ?_
        refine jr_ialdN hg (n := 24) (by omega) (by decide) (hI 39 (by decide)) (ac_39 _ _) dX8_findOdds_25 ?_
        refine jr_top (hkd) ?_
        refine jr_icmp_neN (tgt := 35) hg dX8_findOdds_26 (by decide) (by omega) (by omega) (fun h26 => ?_) (fun h26 => ?_)
        · refine jr_iconst hg (nI 0) dX8_findOdds_35 (by decide) ?_
          refine jr_cV3p hg lk_X8_253 (hI 35 (by decide)) rfl rfl (by decide) (by decide) (Nat.le_of_ble_eq_true rfl) dX8_findOdds_36 (c_setOddsm hI (j := 3 * p + k) hx1 (by omega) hk3 rfl (by rw [z_o1_k hp hk3 rfl h4, if_neg h26]) (hl _ (by omega)) (hq _ (by omega))) (fun r M' h => ?_)
          obtain ⟨rfl, x, f⟩ := h
          refine jr_st (show _ = [] from rfl) ?_
          refine jr_iinc hg 2 rfl (nI (_ + 1)) (nI_1 _) dX8_findOdds_39 (by decide) rfl ?_
          refine jr_goto (tgt := 11) hg dX8_findOdds_42 (by decide) ?_
          exact jr_lv [1, 2, 0] rfl (ih _ x (hs.tr (f.wk (by decide))))
        · refine jr_sipush hg (nI 1000) dX8_findOdds_29 (by decide) ?_
          refine jr_goto (tgt := 36) hg dX8_findOdds_32 (by decide) ?_
          refine jr_cV3p hg lk_X8_253 (hI 35 (by decide)) rfl rfl (by decide) (by decide) (Nat.le_of_ble_eq_true rfl) dX8_findOdds_36 (c_setOddsm hI (j := 3 * p + k) hx1 (by omega) hk3 rfl (by rw [z_o1_k hp hk3 rfl h4, if_pos h26]) (hl _ (by omega)) (hq _ (by omega))) (fun r M' h => ?_)
          obtain ⟨rfl, x, f⟩ := h
          refine jr_st (show _ = [] from rfl) ?_
          refine jr_iinc hg 2 rfl (nI (_ + 1)) (nI_1 _) dX8_findOdds_39 (by decide) rfl ?_
          refine jr_goto (tgt := 11) hg dX8_findOdds_42 (by decide) ?_
          exact jr_lv [1, 2, 0] rfl (ih _ x (hs.tr (f.wk (by decide))))
    exact jr_lv [1, 2, 0] rfl (lp11 0 (by omega) M hX0 zfr.rf)
