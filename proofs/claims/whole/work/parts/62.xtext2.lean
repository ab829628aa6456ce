theorem zX_g.wk {s : zS} {rv : Nat → Nat} {a f : Nat} {fp : Int32} {M M1 : mm_M} (h : zX_g s rv a f fp M) (h1 : M1.1 1 = M.1 1) (h9 : M1.1 9 = M.1 9) (h10 : M1.1 10 = M.1 10) : zX_g s rv a f fp M1 := by
  simp only [zX_g, h1, h9, h10]; exact h
theorem z_ps_e {s : zS} {m : Nat} {rv : Nat → Nat} {a : Nat} (h : s 0 4 ≤ a) : z_ps s m rv a = (0, 0, rv) := by
  cases m with
  | zero => rfl
  | succ m => rw [z_ps, if_neg (by omega)]
theorem z_ps_s {s : zS} {m : Nat} {rv : Nat → Nat} {a f d : Nat} (h : a < s 0 4) (e : z_cf s rv a = (f, d)) : z_ps s (m + 1) rv a = if f = 0 then z_ps s m (z_cv s rv a) (z_sp s d) else (f, d, rv) := by rw [z_ps, if_pos h, e]
theorem z_ps_3 {s : zS} : ∀ m rv a, (z_ps s m rv a).1 ≤ 3 := by
  intro m
  induction m with
  | zero => intro rv a; exact Nat.zero_le _
  | succ m ih =>
    intro rv a
    rw [z_ps]
    split
    · split
      · exact ih _ _
      · exact z_cf_3 s rv a
    · exact Nat.zero_le _
theorem z_cf_n {s : zS} {rv : Nat → Nat} {a d : Nat} (h : z_cf s rv a = (0, d)) : d ≤ s 0 4 := by
  have q := z_cf_0 (show (z_cf s rv a).1 = 0 by rw [h])
  rw [h] at q
  have e : d = z_sp s (z_ne s (z_sp s (z_we s a))) + 1 := q.2.2.2.2
  rw [e]
  exact q.2.2.1
theorem c_clauseP {E : mm_E} (hI : mm_FX E) {M : mm_M} {s : zS} {rv : Nat → Nat} {a f d : Nat} {fp : Int32} (Rg : zX_g s rv a 0 fp M) (Wt : zW_t s) (ha : a ≤ s 0 4) (hrv : z_rvk rv) (e : z_cf s rv a = (f, d)) : mm_Cal E mX1_readClause [.ref (E.1 1)] M (fun q M' => q = none ∧ (if f = 0 then zX_g s (z_cv s rv a) d 0 fp M' else ∃ rv1 a1, a1 ≤ s 0 4 ∧ zX_g s rv1 a1 f (nI d) M') ∧ mm_same [1, 9] M M') := by
  have h := c_X1_readClause hI Rg Wt ha hrv
  rw [e] at h
  exact h

set_option maxRecDepth 100000 in
theorem c_readTextP {E : mm_E} (hI : mm_FX E) {M : mm_M} {s : zS} (Rt : zX_t s M) (Wt : zW_t s) {pf pp : Nat} {prv : Nat → Nat} (hpr : z_pr s = (pf, pp, prv)) (hp3 : pf ≤ 3) : mm_Cal E mX1_readText [.ref (E.1 1)] M (fun q M' => q = none ∧ (if pf = 0 then ∃ a1 fp1, zX_g s prv a1 0 fp1 M' else ∃ rv1 a1, zX_g s rv1 a1 pf (nI pp) M') ∧ mm_same [1, 9] M M') := by
  have hn := Wt.1
  refine jr_entry RX1 (by decide +kernel) (Nat.le_of_ble_eq_true rfl) (fun g hg => ?_)
  refine jr_lv (lv' := [(0, .ref (E.1 1))]) [0] rfl ?_
  refine jr_aload_n hg 0 rfl rfl dX1_readText_0 ?_
  refine jr_iconst hg (nI 0) dX1_readText_1 (by decide) ?_
  refine pf_X1_53 hg (hI 1 (by decide)) dX1_readText_2 ?_
  refine jr_aload_n hg 0 rfl rfl dX1_readText_5 ?_
  refine jr_iconst hg (nI 0) dX1_readText_6 (by decide) ?_
  refine pf_X1_42 hg (hI 1 (by decide)) dX1_readText_7 ?_
  refine jr_iconst hg (nI 0) dX1_readText_10 (by decide) ?_
  refine jr_istore_n hg dX1_readText_11 rfl (by decide) rfl ?_
  have lp12 : ∀ i : Nat, i ≤ 8 → ∀ M1, (∀ j, j < i → M1.1 9 j = -1) → mm_same [9] (mm_si (mm_si M 1 (upd (M.1 1) 4 (nI 0))) 1 (upd ((mm_si M 1 (upd (M.1 1) 4 (nI 0))).1 1) 5 (nI 0))) M1 → mm_J g E mX1_readText (fun q M' => q = none ∧ (if pf = 0 then ∃ a1 fp1, zX_g s prv a1 0 fp1 M' else ∃ rv1 a1, zX_g s rv1 a1 pf (nI pp) M') ∧ mm_same [1, 9] M M') 12 [(0, .ref (E.1 1)), (1, .int (nI i))] [] (M1) := by
    refine jr_up (S := fun i => ∀ M1, (∀ j, j < i → M1.1 9 j = -1) → mm_same [9] (mm_si (mm_si M 1 (upd (M.1 1) 4 (nI 0))) 1 (upd ((mm_si M 1 (upd (M.1 1) 4 (nI 0))).1 1) 5 (nI 0))) M1 → mm_J g E mX1_readText (fun q M' => q = none ∧ (if pf = 0 then ∃ a1 fp1, zX_g s prv a1 0 fp1 M' else ∃ rv1 a1, zX_g s rv1 a1 pf (nI pp) M') ∧ mm_same [1, 9] M M') 12 [(0, .ref (E.1 1)), (1, .int (nI i))] [] (M1)) (n := 8) ?_ ?_
    · intro M1 hrow hs9
      show mm_J g E mX1_readText (fun q M' => q = none ∧ (if pf = 0 then ∃ a1 fp1, zX_g s prv a1 0 fp1 M' else ∃ rv1 a1, zX_g s rv1 a1 pf (nI pp) M') ∧ mm_same [1, 9] M M') 12 [(0, .ref (E.1 1)), (1, .int (nI (8)))] [] (M1)
      have hx0 : zX_g s (fun _ => 0) 0 0 (M.1 1 6) M1 := ⟨(congrFun (hs9 1 (by decide)).1 3).trans Rt.1, fun j hj => (congrFun (hs9 10 (by decide)).1 j).trans (Rt.2.1 j hj), hrow, congrFun (hs9 1 (by decide)).1 4, congrFun (hs9 1 (by decide)).1 5, congrFun (hs9 1 (by decide)).1 6⟩
      have hs0 : mm_same [1, 9] M M1 := (((mm_same.rf.si (by decide)).si (by decide) : mm_same [1, 9] M _)).tr (hs9.wk (by decide))
      refine jr_iload_n hg 1 rfl rfl dX1_readText_12 ?_
      refine jr_bipush hg (nI 8) dX1_readText_13 (by decide) ?_
      refine jr_icmp_geN (tgt := 31) hg dX1_readText_15 (by decide) (by omega) (by omega) (fun h15 => ?_) (fun h => by omega)
      refine jr_aload_n hg 0 rfl rfl dX1_readText_31 ?_
      refine jr_cV0p hg lk_X1_56 (hI 1 (by decide)) rfl rfl (by decide) (by decide) (Nat.le_of_ble_eq_true rfl) dX1_readText_32 (c_X1_skipBlanks hI hx0 Wt (Nat.zero_le _)) (fun r M' h => ?_)
      obtain ⟨rfl, x1, f1⟩ := h
      refine jr_st (show _ = [] from rfl) ?_
      have ctF : ∀ (c : Nat) (M1 : mm_M) (rv : Nat → Nat) (a : Nat), c ≤ 9 → a ≤ s 0 4 → pf ≠ 0 → zX_g s rv a pf (nI pp) M1 → mm_same [1, 9] M M1 → mm_J g E mX1_readText (fun q M' => q = none ∧ (if pf = 0 then ∃ a1 fp1, zX_g s prv a1 0 fp1 M' else ∃ rv1 a1, zX_g s rv1 a1 pf (nI pp) M') ∧ mm_same [1, 9] M M') 37 [(0, .ref (E.1 1)), (1, .int (nI c))] [] (M1) := by
        intro c M1 rv a hc ha hp0 hx hs
        refine jr_iload_n hg 1 rfl rfl dX1_readText_37 ?_
        refine jr_bipush hg (nI 8) dX1_readText_38 (by decide) ?_
        refine jr_icmp_gtN (tgt := 75) hg dX1_readText_40 (by decide) (by omega) (by omega) (fun h40 => ?_) (fun h40 => ?_)
        · exact jr_vret hg rfl dX1_readText_75 (⟨rfl, by rw [if_neg hp0]; exact ⟨rv, a, hx⟩, hs⟩)
        · refine jr_aload_n hg 0 rfl rfl dX1_readText_43 ?_
          refine gf_X1_53 hg (hI 1 (by decide)) dX1_readText_44 ?_
          refine jr_top (hx.2.2.2.1) ?_
          refine jr_aload_n hg 0 rfl rfl dX1_readText_47 ?_
          refine gf_X1_34 hg (hI 1 (by decide)) dX1_readText_48 ?_
          refine jr_top (hx.1) ?_
          refine jr_icmp_geN (tgt := 75) hg dX1_readText_51 (by decide) (by omega) (by omega) (fun h51 => ?_) (fun h51 => ?_)
          · exact jr_vret hg rfl dX1_readText_75 (⟨rfl, by rw [if_neg hp0]; exact ⟨rv, a, hx⟩, hs⟩)
          · refine jr_aload_n hg 0 rfl rfl dX1_readText_54 ?_
            refine gf_X1_42 hg (hI 1 (by decide)) dX1_readText_55 ?_
            refine jr_top (hx.2.2.2.2.1) ?_
            refine jr_if_neN (tgt := 75) hg dX1_readText_58 (by decide) (by omega) (fun h58 => ?_) (fun h => by omega)
            exact jr_vret hg rfl dX1_readText_75 (⟨rfl, by rw [if_neg hp0]; exact ⟨rv, a, hx⟩, hs⟩)
      refine jr_iconst hg (nI 0) dX1_readText_35 (by decide) ?_
      refine jr_istore_n hg dX1_readText_36 rfl (by decide) rfl ?_
      generalize M.1 1 6 = fp1 at x1
      have lp37 : ∀ c : Nat, c ≤ 9 → ∀ (M2 : mm_M) (rv : Nat → Nat) (a : Nat), zX_g s rv a 0 fp1 M2 → mm_same [1, 9] M M2 → a ≤ s 0 4 → z_rvk rv → z_ps s (9 - c) rv a = (pf, pp, prv) → mm_J g E mX1_readText (fun q M' => q = none ∧ (if pf = 0 then ∃ a1 fp1, zX_g s prv a1 0 fp1 M' else ∃ rv1 a1, zX_g s rv1 a1 pf (nI pp) M') ∧ mm_same [1, 9] M M') 37 [(0, .ref (E.1 1)), (1, .int (nI c))] [] (M2) := by
        refine jr_up (S := fun c => ∀ (M2 : mm_M) (rv : Nat → Nat) (a : Nat), zX_g s rv a 0 fp1 M2 → mm_same [1, 9] M M2 → a ≤ s 0 4 → z_rvk rv → z_ps s (9 - c) rv a = (pf, pp, prv) → mm_J g E mX1_readText (fun q M' => q = none ∧ (if pf = 0 then ∃ a1 fp1, zX_g s prv a1 0 fp1 M' else ∃ rv1 a1, zX_g s rv1 a1 pf (nI pp) M') ∧ mm_same [1, 9] M M') 37 [(0, .ref (E.1 1)), (1, .int (nI c))] [] (M2)) (n := 9) ?_ ?_
        · intro M2 rv a hx hs ha hrv hz
          show mm_J g E mX1_readText (fun q M' => q = none ∧ (if pf = 0 then ∃ a1 fp1, zX_g s prv a1 0 fp1 M' else ∃ rv1 a1, zX_g s rv1 a1 pf (nI pp) M') ∧ mm_same [1, 9] M M') 37 [(0, .ref (E.1 1)), (1, .int (nI (9)))] [] (M2)
          refine jr_iload_n hg 1 rfl rfl dX1_readText_37 ?_
          refine jr_bipush hg (nI 8) dX1_readText_38 (by decide) ?_
          refine jr_icmp_gtN (tgt := 75) hg dX1_readText_40 (by decide) (by omega) (by omega) (fun h40 => ?_) (fun h => by omega)
          exact jr_vret hg rfl dX1_readText_75 (⟨rfl, by have q : ((0 : Nat), (0 : Nat), rv) = (pf, pp, prv) := hz; have e1 : 0 = pf := congrArg (fun q => q.1) q; have e2 : rv = prv := congrArg (fun q => q.2.2) q; rw [if_pos e1.symm, ← e2]; exact ⟨a, fp1, hx⟩, hs⟩)
        · intro c hc ih2 M2 rv a hx hs ha hrv hz
          show mm_J g E mX1_readText (fun q M' => q = none ∧ (if pf = 0 then ∃ a1 fp1, zX_g s prv a1 0 fp1 M' else ∃ rv1 a1, zX_g s rv1 a1 pf (nI pp) M') ∧ mm_same [1, 9] M M') 37 [(0, .ref (E.1 1)), (1, .int (nI c))] [] (M2)
          refine jr_iload_n hg 1 rfl rfl dX1_readText_37 ?_
          refine jr_bipush hg (nI 8) dX1_readText_38 (by decide) ?_
          refine jr_icmp_gtN (tgt := 75) hg dX1_readText_40 (by decide) (by omega) (by omega) (fun h => by omega) (fun h40 => ?_)
          refine jr_aload_n hg 0 rfl rfl dX1_readText_43 ?_
          refine gf_X1_53 hg (hI 1 (by decide)) dX1_readText_44 ?_
          refine jr_top (hx.2.2.2.1) ?_
          refine jr_aload_n hg 0 rfl rfl dX1_readText_47 ?_
          refine gf_X1_34 hg (hI 1 (by decide)) dX1_readText_48 ?_
          refine jr_top (hx.1) ?_
          refine jr_icmp_geN (tgt := 75) hg dX1_readText_51 (by decide) (by omega) (by omega) (fun h51 => ?_) (fun h51 => ?_)
          · exact jr_vret hg rfl dX1_readText_75 (⟨rfl, by have q : ((0 : Nat), (0 : Nat), rv) = (pf, pp, prv) := (z_ps_e h51).symm.trans hz; have e1 : 0 = pf := congrArg (fun q => q.1) q; have e2 : rv = prv := congrArg (fun q => q.2.2) q; rw [if_pos e1.symm, ← e2]; exact ⟨a, fp1, hx⟩, hs⟩)
          · refine jr_aload_n hg 0 rfl rfl dX1_readText_54 ?_
            refine gf_X1_42 hg (hI 1 (by decide)) dX1_readText_55 ?_
            refine jr_top (hx.2.2.2.2.1) ?_
            refine jr_if_neN (tgt := 75) hg dX1_readText_58 (by decide) (by omega) (fun h => by omega) (fun h58 => ?_)
            obtain ⟨f, d, hcf⟩ : ∃ f d, z_cf s rv a = (f, d) := ⟨_, _, rfl⟩
            rw [show 9 - c = (9 - (c + 1)) + 1 by omega, z_ps_s h51 hcf] at hz
            refine jr_aload_n hg 0 rfl rfl dX1_readText_61 ?_
            refine jr_cV0p hg lk_X1_59 (hI 1 (by decide)) rfl rfl (by decide) (by decide) (Nat.le_of_ble_eq_true rfl) dX1_readText_62 (c_clauseP hI hx Wt ha hrv hcf) (fun r M' h => ?_)
            obtain ⟨rfl, hcl, f1⟩ := h
            refine jr_st (show _ = [] from rfl) ?_
            by_cases q : f = 0
            · subst q
              rw [if_pos rfl] at hcl hz
              refine jr_aload_n hg 0 rfl rfl dX1_readText_65 ?_
              refine jr_cV0p hg lk_X1_56 (hI 1 (by decide)) rfl rfl (by decide) (by decide) (Nat.le_of_ble_eq_true rfl) dX1_readText_66 (c_X1_skipBlanks hI hcl Wt (z_cf_n hcf)) (fun r M' h => ?_)
              obtain ⟨rfl, x2, f2⟩ := h
              refine jr_st (show _ = [] from rfl) ?_
              refine jr_iinc hg 1 rfl (nI (_ + 1)) (nI_1 _) dX1_readText_69 (by decide) rfl ?_
              refine jr_goto (tgt := 37) hg dX1_readText_72 (by decide) ?_
              exact jr_lv [1, 0] rfl (ih2 M' _ _ x2 (hs.tr (f1.tr f2)) (z_sp_n (z_cf_n hcf)) (z_cv_k hrv (by rw [hcf])) hz)
            · rw [if_neg q] at hcl hz
              obtain ⟨rv1, a1, ha1, hcl⟩ := hcl
              refine jr_aload_n hg 0 rfl rfl dX1_readText_65 ?_
              refine jr_cV0p hg lk_X1_56 (hI 1 (by decide)) rfl rfl (by decide) (by decide) (Nat.le_of_ble_eq_true rfl) dX1_readText_66 (c_X1_skipBlanks hI hcl Wt ha1) (fun r M' h => ?_)
              obtain ⟨rfl, x2, f2⟩ := h
              refine jr_st (show _ = [] from rfl) ?_
              refine jr_iinc hg 1 rfl (nI (_ + 1)) (nI_1 _) dX1_readText_69 (by decide) rfl ?_
              refine jr_goto (tgt := 37) hg dX1_readText_72 (by decide) ?_
              have e1 : f = pf := congrArg (fun q => q.1) hz
              have e2 : d = pp := congrArg (fun q => q.2.1) hz
              rw [e1, e2] at x2
              exact jr_lv [1, 0] rfl (ctF (c + 1) M' _ _ hc (z_sp_n ha1) (by rw [← e1]; exact q) x2 (hs.tr (f1.tr f2)))
      exact jr_lv [1, 0] rfl (lp37 0 (by omega) M' (fun _ => 0) (z_sp s 0) x1 (hs0.tr f1) (z_sp_n (Nat.zero_le _)) (fun j _ => Or.inl rfl) hpr)
    · intro i hi ih M1 hrow hs9
      show mm_J g E mX1_readText (fun q M' => q = none ∧ (if pf = 0 then ∃ a1 fp1, zX_g s prv a1 0 fp1 M' else ∃ rv1 a1, zX_g s rv1 a1 pf (nI pp) M') ∧ mm_same [1, 9] M M') 12 [(0, .ref (E.1 1)), (1, .int (nI i))] [] (M1)
      refine jr_iload_n hg 1 rfl rfl dX1_readText_12 ?_
      refine jr_bipush hg (nI 8) dX1_readText_13 (by decide) ?_
      refine jr_icmp_geN (tgt := 31) hg dX1_readText_15 (by decide) (by omega) (by omega) (fun h => by omega) (fun h15 => ?_)
      refine jr_aload_n hg 0 rfl rfl dX1_readText_18 ?_
      refine gf_X1_15 hg (hI 1 (by decide)) dX1_readText_19 ?_
      refine jr_iload_n hg 1 rfl rfl dX1_readText_22 ?_
      refine jr_iconst hg (-1) dX1_readText_23 (by decide) ?_
      refine jr_iastN hg (n := 8) (by omega) (by decide) (hI 9 (by decide)) (ac_9) dX1_readText_24 ?_
      refine jr_iinc hg 1 rfl (nI (_ + 1)) (nI_1 _) dX1_readText_25 (by decide) rfl ?_
      refine jr_goto (tgt := 12) hg dX1_readText_28 (by decide) ?_
      exact jr_lv [1, 0] rfl (ih (mm_si M1 9 (upd (M1.1 9) i (-1))) (fun j hj => by show upd (M1.1 9) i (-1) j = _; by_cases e : j = i; rw [e, upd_s]; rw [upd_n e]; exact hrow j (by omega)) (hs9.si (by decide)))
  exact jr_lv [1, 0] rfl (lp12 0 (by omega) _ (fun j hj => by omega) mm_same.rf)

set_option maxRecDepth 100000 in
theorem c_X1_takeReadValues {E : mm_E} (hI : mm_FX E) {M : mm_M} {rv : Nat → Nat} (h9 : ∀ j, j < 8 → M.1 9 j = zmv (rv j)) (hrv : z_rvk rv) : mm_Cal E mX1_takeReadValues [.ref (E.1 1)] M (fun q M' => q = some (.int (nI (zcnt (z_nt rv) 8))) ∧ (∀ j, j < 8 → M'.1 8 j = nI (z_nl rv j)) ∧ mm_same [8] M M') := by
  refine jr_entry RX1 (by decide +kernel) (Nat.le_of_ble_eq_true rfl) (fun g hg => ?_)
  refine jr_lv (lv' := [(0, .ref (E.1 1))]) [0] rfl ?_
  obtain ⟨ta, hz_AT_FIRST, ht_AT_FIRST⟩ := hg.N.2.1
  refine jr_iconst hg (nI 0) dX1_takeReadValues_0 (by decide) ?_
  refine jr_istore_n hg dX1_takeReadValues_1 rfl (by decide) rfl ?_
  refine jr_iconst hg (nI 0) dX1_takeReadValues_2 (by decide) ?_
  refine jr_istore_n hg dX1_takeReadValues_3 rfl (by decide) rfl ?_
  have lp4 : ∀ i : Nat, i ≤ 8 → ∀ M1, (∀ j, j < i → M1.1 8 j = nI (z_nl rv j)) → mm_same [8] M M1 → mm_J g E mX1_takeReadValues (fun q M' => q = some (.int (nI (zcnt (z_nt rv) 8))) ∧ (∀ j, j < 8 → M'.1 8 j = nI (z_nl rv j)) ∧ mm_same [8] M M') 4 [(0, .ref (E.1 1)), (1, .int (nI ((zcnt (z_nt rv) i)))), (2, .int (nI i))] [] (M1) := by
    refine jr_up (S := fun i => ∀ M1, (∀ j, j < i → M1.1 8 j = nI (z_nl rv j)) → mm_same [8] M M1 → mm_J g E mX1_takeReadValues (fun q M' => q = some (.int (nI (zcnt (z_nt rv) 8))) ∧ (∀ j, j < 8 → M'.1 8 j = nI (z_nl rv j)) ∧ mm_same [8] M M') 4 [(0, .ref (E.1 1)), (1, .int (nI ((zcnt (z_nt rv) i)))), (2, .int (nI i))] [] (M1)) (n := 8) ?_ ?_
    · intro M1 hrow hs
      show mm_J g E mX1_takeReadValues (fun q M' => q = some (.int (nI (zcnt (z_nt rv) 8))) ∧ (∀ j, j < 8 → M'.1 8 j = nI (z_nl rv j)) ∧ mm_same [8] M M') 4 [(0, .ref (E.1 1)), (1, .int (nI ((zcnt (z_nt rv) (8))))), (2, .int (nI (8)))] [] (M1)
      refine jr_iload_n hg 2 rfl rfl dX1_takeReadValues_4 ?_
      refine jr_bipush hg (nI 8) dX1_takeReadValues_5 (by decide) ?_
      refine jr_icmp_geN (tgt := 63) hg dX1_takeReadValues_7 (by decide) (by omega) (by omega) (fun h7 => ?_) (fun h => by omega)
      refine jr_iload_n hg 1 rfl rfl dX1_takeReadValues_63 ?_
      exact jr_iret hg rfl dX1_takeReadValues_64 (⟨rfl, hrow, hs⟩)
    · intro i hi ih M1 hrow hs
      show mm_J g E mX1_takeReadValues (fun q M' => q = some (.int (nI (zcnt (z_nt rv) 8))) ∧ (∀ j, j < 8 → M'.1 8 j = nI (z_nl rv j)) ∧ mm_same [8] M M') 4 [(0, .ref (E.1 1)), (1, .int (nI ((zcnt (z_nt rv) i)))), (2, .int (nI i))] [] (M1)
      have hi8 : i < 8 := hi
      have hc9 : M1.1 9 i = zmv (rv i) := (congrFun (hs 9 (by decide)).1 i).trans (h9 i hi8)
      have hr := z_rvk_le hrv hi8
      refine jr_iload_n hg 2 rfl rfl dX1_takeReadValues_4 ?_
      refine jr_bipush hg (nI 8) dX1_takeReadValues_5 (by decide) ?_
      refine jr_icmp_geN (tgt := 63) hg dX1_takeReadValues_7 (by decide) (by omega) (by omega) (fun h => by omega) (fun h7 => ?_)
      refine jr_aload_n hg 0 rfl rfl dX1_takeReadValues_10 ?_
      refine gf_X1_15 hg (hI 1 (by decide)) dX1_takeReadValues_11 ?_
      refine jr_iload_n hg 2 rfl rfl dX1_takeReadValues_14 ?_
      refine jr_ialdN hg (n := 8) (by omega) (by decide) (hI 9 (by decide)) (ac_9 _ _) dX1_takeReadValues_15 ?_
      refine jr_top (hc9) ?_
      refine jr_iconst hg (-1) dX1_takeReadValues_16 (by decide) ?_
      refine jr_icmp_eq (tgt := 24) hg dX1_takeReadValues_17 (by decide) (fun h17 => ?_) (fun h17 => ?_)
      · refine jr_iconst hg (nI 0) dX1_takeReadValues_24 (by decide) ?_
        have h0 : rv i = 0 := (zmv_m1 (by omega)).mp h17
        refine jr_istore_n hg dX1_takeReadValues_25 rfl (by decide) rfl ?_
        refine jr_iload_n hg 2 rfl rfl dX1_takeReadValues_26 ?_
        refine jr_iload_n hg 0 rfl rfl dX1_takeReadValues_27 ?_
        refine cn_X1_49 hg (by decide) (Nat.le_of_ble_eq_true rfl) dX1_takeReadValues_28 (c_X7_oneIf hI (by decide)) ?_
        refine jr_iaddN hg dX1_takeReadValues_31 ?_
        refine jr_istore_n hg dX1_takeReadValues_32 rfl (by decide) rfl ?_
        refine jr_aload_n hg 2 rfl rfl dX1_takeReadValues_33 ?_
        refine gf_X1_9 hg (hI 1 (by decide)) dX1_takeReadValues_34 ?_
        refine jr_iload_n hg 3 rfl rfl dX1_takeReadValues_37 ?_
        refine jr_iload_n hg 1 rfl rfl dX1_takeReadValues_38 ?_
        refine jr_if_eqN (tgt := 51) hg dX1_takeReadValues_39 (by decide) (by omega) (fun h39 => ?_) (fun h => by omega)
        refine jr_gets hg hz_AT_FIRST wm_3_1 dX1_takeReadValues_51 ?_
        refine jr_iload_n hg 3 rfl rfl dX1_takeReadValues_54 ?_
        refine jr_ti hg ht_AT_FIRST (by omega) (by decide) dX1_takeReadValues_55 ?_
        refine jr_top (mm_first_n i hi8) ?_
        refine jr_iastN hg (n := 8) (by omega) (by decide) (hI 8 (by decide)) (ac_8) dX1_takeReadValues_56 ?_
        refine jr_iinc hg 3 rfl (nI (_ + 1)) (nI_1 _) dX1_takeReadValues_57 (by decide) rfl ?_
        refine jr_goto (tgt := 4) hg dX1_takeReadValues_60 (by decide) ?_
        have e : zcnt (z_nt rv) (i + 1) = zcnt (z_nt rv) i + 0 := by
          have q : z_nt rv i = false := by rw [z_nt, h0]; rfl
          rw [zcnt_s, q]; rfl
        rw [e] at ih
        exact jr_lv [3, 1, 0] rfl (ih (mm_si M1 8 (upd (M1.1 8) i (nI (zfi i)))) (fun j hj => by show upd (M1.1 8) i (nI (zfi i)) j = _; by_cases e : j = i; rw [e, upd_s, show (zfi i) = z_nl rv i from ((show z_nl rv i = (zfi i) by rw [z_nl, if_pos h0]).symm)]; rw [upd_n e]; exact hrow j (by omega)) (hs.si (by decide)))
      · refine jr_iconst hg (nI 1) dX1_takeReadValues_20 (by decide) ?_
        refine jr_goto (tgt := 25) hg dX1_takeReadValues_21 (by decide) ?_
        have h0 : rv i ≠ 0 := fun q => h17 ((zmv_m1 (by omega)).mpr q)
        refine jr_istore_n hg dX1_takeReadValues_25 rfl (by decide) rfl ?_
        refine jr_iload_n hg 2 rfl rfl dX1_takeReadValues_26 ?_
        refine jr_iload_n hg 0 rfl rfl dX1_takeReadValues_27 ?_
        refine cn_X1_49 hg (by decide) (Nat.le_of_ble_eq_true rfl) dX1_takeReadValues_28 (c_X7_oneIf hI (by decide)) ?_
        refine jr_iaddN hg dX1_takeReadValues_31 ?_
        refine jr_istore_n hg dX1_takeReadValues_32 rfl (by decide) rfl ?_
        refine jr_aload_n hg 2 rfl rfl dX1_takeReadValues_33 ?_
        refine gf_X1_9 hg (hI 1 (by decide)) dX1_takeReadValues_34 ?_
        refine jr_iload_n hg 3 rfl rfl dX1_takeReadValues_37 ?_
        refine jr_iload_n hg 1 rfl rfl dX1_takeReadValues_38 ?_
        refine jr_if_eqN (tgt := 51) hg dX1_takeReadValues_39 (by decide) (by omega) (fun h => by omega) (fun h39 => ?_)
        refine jr_aload_n hg 2 rfl rfl dX1_takeReadValues_42 ?_
        refine gf_X1_15 hg (hI 1 (by decide)) dX1_takeReadValues_43 ?_
        refine jr_iload_n hg 3 rfl rfl dX1_takeReadValues_46 ?_
        refine jr_ialdN hg (n := 8) (by omega) (by decide) (hI 9 (by decide)) (ac_9 _ _) dX1_takeReadValues_47 ?_
        refine jr_top (hc9.trans (show zmv (rv i) = nI (rv i - 1) by rw [zmv, if_neg h0])) ?_
        refine jr_goto (tgt := 56) hg dX1_takeReadValues_48 (by decide) ?_
        refine jr_iastN hg (n := 8) (by omega) (by decide) (hI 8 (by decide)) (ac_8) dX1_takeReadValues_56 ?_
        refine jr_iinc hg 3 rfl (nI (_ + 1)) (nI_1 _) dX1_takeReadValues_57 (by decide) rfl ?_
        refine jr_goto (tgt := 4) hg dX1_takeReadValues_60 (by decide) ?_
        have e : zcnt (z_nt rv) (i + 1) = zcnt (z_nt rv) i + 1 := by
          have q : z_nt rv i = true := by rw [z_nt]; simp [h0]
          rw [zcnt_s, q]; rfl
        rw [e] at ih
        exact jr_lv [3, 1, 0] rfl (ih (mm_si M1 8 (upd (M1.1 8) i (nI (rv i - 1)))) (fun j hj => by show upd (M1.1 8) i (nI (rv i - 1)) j = _; by_cases e : j = i; rw [e, upd_s, show (rv i - 1) = z_nl rv i from ((show z_nl rv i = (rv i - 1) by rw [z_nl, if_neg h0]).symm)]; rw [upd_n e]; exact hrow j (by omega)) (hs.si (by decide)))
  exact jr_lv [2, 1, 0] rfl (lp4 0 (by omega) M (fun j hj => by omega) mm_same.rf)

theorem zq_read_n {s : zS} {pf pp : Nat} {prv : Nat → Nat} (h : z_pr s = (pf, pp, prv)) (q : pf ≠ 0) : zq_read s = (-10 - nI pf, zset s 0 (zup (zup (s 0) 4 0) 7 (pp + 1))) := by
  rw [zq_read, h]; exact if_neg q
theorem zq_read_p {s : zS} {pp : Nat} {prv : Nat → Nat} (h : z_pr s = (0, pp, prv)) : zq_read s = (nI (zcnt (z_nt prv) 8), zset (zset s 10 (z_nl prv)) 0 (zup (zup (s 0) 4 0) 7 0)) := by
  rw [zq_read, h]; exact if_pos rfl

set_option maxRecDepth 100000 in
theorem c_takeTextP {E : mm_E} (hI : mm_FX E) {M : mm_M} {s : zS} (Rt : zX_t s M) (Rw : zX_w s M) (Wt : zW_t s) {pf pp : Nat} {prv : Nat → Nat} (hpr : z_pr s = (pf, pp, prv)) : mm_Cal E mX1_takeText [.ref (E.1 1)] M (fun v M' => v = some (.int (zq_read s).1) ∧ zX_t (zq_read s).2 M' ∧ zX_w (zq_read s).2 M' ∧ mm_same [1, 8, 9] M M') := by
  have hp3 : pf ≤ 3 := by have q := z_ps_3 (s := s) 9 (fun _ => 0) (z_sp s 0); rw [show z_ps s 9 (fun _ => 0) (z_sp s 0) = (pf, pp, prv) from hpr] at q; exact q
  have hkr : z_rvk prv := by have q := z_ps_k (s := s) 9 (fun _ => 0) (z_sp s 0) (fun j _ => Or.inl rfl); rw [show z_ps s 9 (fun _ => 0) (z_sp s 0) = (pf, pp, prv) from hpr] at q; exact q
  refine jr_entry RX1 (by decide +kernel) (Nat.le_of_ble_eq_true rfl) (fun g hg => ?_)
  refine jr_lv (lv' := [(0, .ref (E.1 1))]) [0] rfl ?_
  refine jr_aload_n hg 0 rfl rfl dX1_takeText_0 ?_
  refine jr_cV0p hg lk_X1_39 (hI 1 (by decide)) rfl rfl (by decide) (by decide) (Nat.le_of_ble_eq_true rfl) dX1_takeText_1 (c_readTextP hI Rt Wt hpr hp3) (fun r M' h => ?_)
  obtain ⟨rfl, x, f1⟩ := h
  refine jr_st (show _ = [] from rfl) ?_
  by_cases q : pf = 0
  · subst q
    rw [if_pos rfl] at x
    obtain ⟨a1, fp1, x⟩ := x
    refine jr_aload_n hg 0 rfl rfl dX1_takeText_4 ?_
    refine jr_iconst hg (nI 0) dX1_takeText_5 (by decide) ?_
    refine pf_X1_34 hg (hI 1 (by decide)) dX1_takeText_6 ?_
    refine jr_aload_n hg 0 rfl rfl dX1_takeText_9 ?_
    refine gf_X1_42 hg (hI 1 (by decide)) dX1_takeText_10 ?_
    refine jr_top (x.2.2.2.2.1) ?_
    refine jr_if_eqN (tgt := 24) hg dX1_takeText_13 (by decide) (by omega) (fun h13 => ?_) (fun h => by omega)
    refine jr_aload_n hg 0 rfl rfl dX1_takeText_24 ?_
    refine jr_iconst hg (-1) dX1_takeText_25 (by decide) ?_
    refine pf_X1_30 hg (hI 1 (by decide)) dX1_takeText_26 ?_
    refine jr_aload_n hg 0 rfl rfl dX1_takeText_29 ?_
    refine jr_cV0p hg lk_X1_45 (hI 1 (by decide)) rfl rfl (by decide) (by decide) (Nat.le_of_ble_eq_true rfl) dX1_takeText_30 (c_X1_takeReadValues hI (rv := prv) x.2.2.1 hkr) (fun r M' h => ?_)
    obtain ⟨rfl, y, f2⟩ := h
    exact jr_iret hg rfl dX1_takeText_33 (⟨by rw [zq_read_p hpr], by rw [zq_read_p hpr]; exact ⟨congrFun (f2 1 (by decide)).1 3, fun j hj => absurd hj (Nat.not_lt_zero _), congrFun (f2 1 (by decide)).1 6⟩, by rw [zq_read_p hpr]; exact y, ((((f1.wk (by decide)).si (by decide)).si (by decide) : mm_same [1, 8, 9] M _)).tr (f2.wk (by decide))⟩)
  · rw [if_neg q] at x
    obtain ⟨rv1, a1, x⟩ := x
    refine jr_aload_n hg 0 rfl rfl dX1_takeText_4 ?_
    refine jr_iconst hg (nI 0) dX1_takeText_5 (by decide) ?_
    refine pf_X1_34 hg (hI 1 (by decide)) dX1_takeText_6 ?_
    refine jr_aload_n hg 0 rfl rfl dX1_takeText_9 ?_
    refine gf_X1_42 hg (hI 1 (by decide)) dX1_takeText_10 ?_
    refine jr_top (x.2.2.2.2.1) ?_
    refine jr_if_eqN (tgt := 24) hg dX1_takeText_13 (by decide) (by omega) (fun h => by omega) (fun h13 => ?_)
    refine jr_bipush hg (-10) dX1_takeText_16 (by decide) ?_
    refine jr_aload_n hg 0 rfl rfl dX1_takeText_18 ?_
    refine gf_X1_42 hg (hI 1 (by decide)) dX1_takeText_19 ?_
    refine jr_top (x.2.2.2.2.1) ?_
    refine jr_isub hg dX1_takeText_22 ?_
    exact jr_iret hg rfl dX1_takeText_23 (⟨by rw [zq_read_n hpr q], by rw [zq_read_n hpr q]; exact ⟨rfl, fun j hj => absurd hj (Nat.not_lt_zero _), x.2.2.2.2.2.trans (zmv_s _).symm⟩, by rw [zq_read_n hpr q]; exact fun j hj => (congrFun (f1 8 (by decide)).1 j).trans (Rw j hj), (f1.wk (by decide)).si (by decide)⟩)

theorem c_X1_takeText {E : mm_E} (hI : mm_FX E) {M : mm_M} {s : zS} (Rt : zX_t s M) (Rw : zX_w s M) (Wt : zW_t s) : mm_Cal E mX1_takeText [.ref (E.1 1)] M (fun v M' => v = some (.int (zq_read s).1) ∧ zX_t (zq_read s).2 M' ∧ zX_w (zq_read s).2 M' ∧ mm_same [1, 8, 9] M M') := by
  obtain ⟨pf, pp, prv, hpr⟩ : ∃ pf pp prv, z_pr s = (pf, pp, prv) := ⟨_, _, _, rfl⟩
  exact c_takeTextP hI Rt Rw Wt hpr
theorem zX_rd2 {s : zS} {M M1 : mm_M} (h : zX s M) (f : mm_same [1, 8, 9] M M1) (t : zX_t (zq_read s).2 M1) (w : zX_w (zq_read s).2 M1) : zX (zq_read s).2 M1 := by
  obtain ⟨pf, pp, prv, hpr⟩ : ∃ pf pp prv, z_pr s = (pf, pp, prv) := ⟨_, _, _, rfl⟩
  have hd : M1.2 0 0 = M.2 0 0 := congrFun (f 0 (by decide)).2 0
  by_cases q : pf = 0
  · subst q
    rw [zq_read_p hpr] at t w ⊢
    exact ⟨zX_p_c (f.at (by decide)) h.1, zX_l_c (f.at (by decide)) h.2.1, zX_k_c (f.at (by decide)) h.2.2.1, w, t, hd.trans h.2.2.2.2.2.1, zX_o_c (f.at (by decide)) h.2.2.2.2.2.2.1, zX_q_c (f.at (by decide)) h.2.2.2.2.2.2.2⟩
  · rw [zq_read_n hpr q] at t w ⊢
    exact ⟨zX_p_c (f.at (by decide)) h.1, zX_l_c (f.at (by decide)) h.2.1, zX_k_c (f.at (by decide)) h.2.2.1, w, t, hd.trans h.2.2.2.2.2.1, zX_o_c (f.at (by decide)) h.2.2.2.2.2.2.1, zX_q_c (f.at (by decide)) h.2.2.2.2.2.2.2⟩

set_option maxRecDepth 100000 in
theorem c_X7_read {E : mm_E} (hI : mm_FX E) {M : mm_M} {s : zS} (hR : zX s M) (hW : zW s) : mm_Cal E mX7_read [.ref (E.1 7)] M (fun v M' => v = some (.int (zq_read s).1) ∧ zX (zq_read s).2 M') := by
  obtain ⟨Rp, Rl, Rk, Rw, Rt, Rd, Ro, Rq⟩ := hR
  obtain ⟨Wp, Wl, Wk, Ww, Wt, Wd, Wo, Wq⟩ := hW
  have hnp := Wp.1
  have hnl := Wl.1
  have hnk := Wk.1
  have hall : zX s M := ⟨Rp, Rl, Rk, Rw, Rt, Rd, Ro, Rq⟩
  have wall : zW s := ⟨Wp, Wl, Wk, Ww, Wt, Wd, Wo, Wq⟩
  refine jr_entry RX7 (by decide +kernel) (Nat.le_of_ble_eq_true rfl) (fun g hg => ?_)
  refine jr_lv (lv' := [(0, .ref (E.1 7))]) [0] rfl ?_
  refine jr_aload_n hg 0 rfl rfl dX7_read_0 ?_
  refine gf_X7_10 hg (hI 7 (by decide)) dX7_read_1 ?_
  refine jr_cV0p hg lk_X7_95 (hI 1 (by decide)) rfl rfl (by decide) (by decide) (Nat.le_of_ble_eq_true rfl) dX7_read_4 (c_X1_takeText hI Rt Rw Wt) (fun r M' h => ?_)
  obtain ⟨rfl, x, y, f⟩ := h
  exact jr_iret hg rfl dX7_read_7 (⟨rfl, zX_rd2 hall f x y⟩)

theorem z_bt_mod {t p : Nat} (k : Nat) (hk : k < 8) (hp : p = 2 ^ (8 * k)) (ht : t < 2 ^ 64) : (((t : Int) - 2 ^ 64) / (p : Int)) % 256 = ((t / p % 256 : Nat) : Int) ∧ ((t : Int) / (p : Int)) % 256 = ((t / p % 256 : Nat) : Int) := by
  subst hp
  rcases (show k = 0 ∨ k = 1 ∨ k = 2 ∨ k = 3 ∨ k = 4 ∨ k = 5 ∨ k = 6 ∨ k = 7 by omega) with r | r | r | r | r | r | r | r <;> subst r <;> simp only [Nat.reduceMul, Nat.reducePow, Int.reducePow] <;> omega
theorem z_bt_i (b : Int64) : (2 * b.toUInt64.toNat < 2 ^ 64 ∧ b.toInt = (b.toUInt64.toNat : Int)) ∨ (2 ^ 64 ≤ 2 * b.toUInt64.toNat ∧ b.toInt = (b.toUInt64.toNat : Int) - 2 ^ 64) := by
  have h : b.toInt = b.toBitVec.toInt := rfl
  have e : b.toUInt64.toNat = b.toBitVec.toNat := rfl
  rw [h, e, BitVec.toInt_eq_toNat_cond]
  split
  · exact Or.inl ⟨by assumption, rfl⟩
  · exact Or.inr ⟨by omega, rfl⟩
theorem z_bt_m (x : Int64) : (x &&& lN 255).toInt = x.toInt % 256 := by
  have n : (x &&& lN 255).toUInt64.toNat = x.toUInt64.toNat % 256 := by
    show (x.toBitVec &&& (lN 255).toBitVec).toNat = x.toBitVec.toNat % 256
    rw [BitVec.toNat_and]
    exact Nat.and_two_pow_sub_one_eq_mod _ 8
  have a := z_bt_i (x &&& lN 255)
  have c := z_bt_i x
  rw [n] at a
  have l := Nat.mod_lt x.toUInt64.toNat (show 0 < 256 by decide)
  rcases a with a | a
  · rcases c with c | c
    · rw [a.2, c.2]; omega
    · rw [a.2, c.2]; omega
  · omega
theorem z_bt_f {x b : Int64} {k : Nat} (h : x.toInt % 256 = (z_bt b k : Int)) : (x &&& lN 255).toInt32 = nI (z_bt b k) := by
  have hb := z_bt_lt b k
  apply Int32.toInt_inj.mp
  rw [nI_toInt (by omega), Int64.toInt_toInt32, z_bt_m, h, Int.bmod_eq_of_le (by omega) (by omega)]
theorem z_bt_s (b : Int64) {k : Nat} (hk : k < 8) : (b >>> ((nI (8 * k)).toInt64 &&& 63) &&& lN 255).toInt32 = nI (z_bt b k) := by
  refine z_bt_f ?_
  have hs : (((nI (8 * k)).toInt64 &&& 63).toBitVec.smod 64).toNat = 8 * k := by
    rcases (show k = 0 ∨ k = 1 ∨ k = 2 ∨ k = 3 ∨ k = 4 ∨ k = 5 ∨ k = 6 ∨ k = 7 by omega) with r | r | r | r | r | r | r | r <;> subst r <;> decide
  rw [show (b >>> ((nI (8 * k)).toInt64 &&& 63)).toInt = (b.toBitVec.sshiftRight' (((nI (8 * k)).toInt64 &&& 63).toBitVec.smod 64)).toInt from rfl, BitVec.toInt_sshiftRight', hs, Int.shiftRight_eq_div_pow, z_bt]
  show b.toInt / ((2 ^ (8 * k) : Nat) : Int) % 256 = _
  have q := z_bt_mod k hk rfl (show b.toUInt64.toNat < 2 ^ 64 from b.toUInt64.toNat_lt)
  rcases z_bt_i b with r | r
  · rw [r.2]; exact q.2
  · rw [r.2]; exact q.1
theorem z_bt_u (b : Int64) {k : Nat} (hk : k < 8) : ((b.toUInt64 >>> ((nI (8 * k)).toInt64.toUInt64 &&& Int64.toUInt64 63)).toInt64 &&& lN 255).toInt32 = nI (z_bt b k) := by
  refine z_bt_f ?_
  have hs : (((nI (8 * k)).toInt64.toUInt64 &&& Int64.toUInt64 63)).toNat = 8 * k := by
    rcases (show k = 0 ∨ k = 1 ∨ k = 2 ∨ k = 3 ∨ k = 4 ∨ k = 5 ∨ k = 6 ∨ k = 7 by omega) with r | r | r | r | r | r | r | r <;> subst r <;> decide
  generalize hu : (nI (8 * k)).toInt64.toUInt64 &&& Int64.toUInt64 63 = u at hs
  have hn : (b.toUInt64 >>> u).toInt64.toUInt64.toNat = b.toUInt64.toNat / 2 ^ (8 * k) := by
    show (b.toUInt64 >>> u).toNat = _
    rw [UInt64.toNat_shiftRight, hs, Nat.mod_eq_of_lt (by omega), Nat.shiftRight_eq_div_pow]
  rcases z_bt_i ((b.toUInt64 >>> u).toInt64) with r | r
  · rw [r.2, hn, z_bt]; omega
  · rw [r.2, hn, z_bt]; omega
theorem z_fd_at {s : zS} {n k : Nat} {b : Int64} (hk : k < n) : z_fd s n b (s 0 4 + (n - (k + 1))) = z_bt b k := by
  rw [z_fd, if_pos ⟨by omega, by omega⟩, show s 0 4 + n - 1 - (s 0 4 + (n - (k + 1))) = k by omega]
theorem z_fd_o {s : zS} {n j : Nat} {b : Int64} (hj : j < s 0 4) : z_fd s n b j = s 11 j := by rw [z_fd, if_neg (by omega)]

set_option maxRecDepth 100000 in
theorem c_append_full {E : mm_E} (hI : mm_FX E) {M : mm_M} {s : zS} (Rt : zX_t s M) (Wt : zW_t s) {n : Nat} {b : Int64} (h8 : n ≤ 8) (hf : 160 < s 0 4 + n) : mm_Cal E mX1_append [.ref (E.1 1), .int (nI n), .long b] M (ret1 (.int (-1004)) M) := by
  have hn := Wt.1
  refine jr_entry RX1 (by decide +kernel) (Nat.le_of_ble_eq_true rfl) (fun g hg => ?_)
  refine jr_lv (lv' := [(0, .ref (E.1 1)), (1, .int (nI n)), (2, .long b)]) [0, 1, 2] rfl ?_
  refine jr_aload_n hg 0 rfl rfl dX1_append_0 ?_
  refine gf_X1_34 hg (hI 1 (by decide)) dX1_append_1 ?_
  refine jr_top (Rt.1) ?_
  refine jr_iload_n hg 1 rfl rfl dX1_append_4 ?_
  refine jr_iaddN hg dX1_append_5 ?_
  refine jr_aload_n hg 0 rfl rfl dX1_append_6 ?_
  refine gf_X1_18 hg (hI 1 (by decide)) dX1_append_7 ?_
  refine jr_alen hg (t0 := 0) (hI 10 (by decide)) (ac_10 _ _) rfl rfl dX1_append_10 ?_
  refine jr_icmp_leN (tgt := 18) hg dX1_append_11 (by decide) (by omega) (by omega) (fun h => by omega) (fun h11 => ?_)
  refine jr_sipush hg (-1004) dX1_append_14 (by decide) ?_
  exact jr_iret hg rfl dX1_append_17 (⟨rfl, rfl⟩)

set_option maxRecDepth 100000 in
theorem c_X1_append {E : mm_E} (hI : mm_FX E) {M : mm_M} {s : zS} (Rt : zX_t s M) (Wt : zW_t s) {n : Nat} {b : Int64} (h1 : 1 ≤ n) (h8 : n ≤ 8) (hf : s 0 4 + n ≤ 160) : mm_Cal E mX1_append [.ref (E.1 1), .int (nI n), .long b] M (fun v M' => v = some (.int (nI (s 0 4 + n))) ∧ zX_t (zfeed s n b) M' ∧ mm_same [1, 10] M M') := by
  have hn := Wt.1
  refine jr_entry RX1 (by decide +kernel) (Nat.le_of_ble_eq_true rfl) (fun g hg => ?_)
  refine jr_lv (lv' := [(0, .ref (E.1 1)), (1, .int (nI n)), (2, .long b)]) [0, 1, 2] rfl ?_
  refine jr_aload_n hg 0 rfl rfl dX1_append_0 ?_
  refine gf_X1_34 hg (hI 1 (by decide)) dX1_append_1 ?_
  refine jr_top (Rt.1) ?_
  refine jr_iload_n hg 1 rfl rfl dX1_append_4 ?_
  refine jr_iaddN hg dX1_append_5 ?_
  refine jr_aload_n hg 0 rfl rfl dX1_append_6 ?_
  refine gf_X1_18 hg (hI 1 (by decide)) dX1_append_7 ?_
  refine jr_alen hg (t0 := 0) (hI 10 (by decide)) (ac_10 _ _) rfl rfl dX1_append_10 ?_
  refine jr_icmp_leN (tgt := 18) hg dX1_append_11 (by decide) (by omega) (by omega) (fun h11 => ?_) (fun h => by omega)
  refine jr_iload_n hg 1 rfl rfl dX1_append_18 ?_
  refine jr_iconst hg (nI 1) dX1_append_19 (by decide) ?_
  refine jr_isub hg dX1_append_20 ?_
  refine jr_top (zmv_sub1 _) ?_
  refine jr_istore hg dX1_append_21 (by decide) rfl ?_
  have lp23 : ∀ k : Nat, ∀ M1, M1.1 1 3 = nI (s 0 4 + (n - k)) → (∀ j, j < s 0 4 + (n - k) → M1.1 10 j = nI (z_fd s n b j)) → M1.1 1 6 = zmv (s 0 7) → mm_same [1, 10] M M1 → k ≤ n → mm_J g E mX1_append (fun v M' => v = some (.int (nI (s 0 4 + n))) ∧ zX_t (zfeed s n b) M' ∧ mm_same [1, 10] M M') 23 [(0, .ref (E.1 1)), (2, .long b), (4, .int (zmv k))] [] (M1) := by
    refine jr_dn (S := fun k => ∀ M1, M1.1 1 3 = nI (s 0 4 + (n - k)) → (∀ j, j < s 0 4 + (n - k) → M1.1 10 j = nI (z_fd s n b j)) → M1.1 1 6 = zmv (s 0 7) → mm_same [1, 10] M M1 → k ≤ n → mm_J g E mX1_append (fun v M' => v = some (.int (nI (s 0 4 + n))) ∧ zX_t (zfeed s n b) M' ∧ mm_same [1, 10] M M') 23 [(0, .ref (E.1 1)), (2, .long b), (4, .int (zmv k))] [] (M1)) ?_ ?_
    · intro M1 hsz hby hfp hs hk
      show mm_J g E mX1_append (fun v M' => v = some (.int (nI (s 0 4 + n))) ∧ zX_t (zfeed s n b) M' ∧ mm_same [1, 10] M M') 23 [(0, .ref (E.1 1)), (2, .long b), (4, .int (zmv 0))] [] (M1)
      refine jr_iload hg 2 rfl dX1_append_23 ?_
      refine jr_if_lt (tgt := 77) hg dX1_append_25 (by decide) (fun h25 => ?_) (fun h => absurd zm1 h)
      refine jr_aload_n hg 0 rfl rfl dX1_append_77 ?_
      refine gf_X1_34 hg (hI 1 (by decide)) dX1_append_78 ?_
      refine jr_top (hsz) ?_
      exact jr_iret hg rfl dX1_append_81 (⟨rfl, ⟨hsz, hby, hfp⟩, hs⟩)
    · intro k ih M1 hsz hby hfp hs hk
      show mm_J g E mX1_append (fun v M' => v = some (.int (nI (s 0 4 + n))) ∧ zX_t (zfeed s n b) M' ∧ mm_same [1, 10] M M') 23 [(0, .ref (E.1 1)), (2, .long b), (4, .int (nI k))] [] (M1)
      refine jr_iload hg 2 rfl dX1_append_23 ?_
      refine jr_if_ltN hg dX1_append_25 (tgt := 77) (by decide) (by omega) ?_
      refine jr_aload_n hg 0 rfl rfl dX1_append_28 ?_
      refine gf_X1_34 hg (hI 1 (by decide)) dX1_append_29 ?_
      refine jr_top (hsz) ?_
      refine jr_aload_n hg 0 rfl rfl dX1_append_32 ?_
      refine gf_X1_18 hg (hI 1 (by decide)) dX1_append_33 ?_
      refine jr_alen hg (t0 := 0) (hI 10 (by decide)) (ac_10 _ _) rfl rfl dX1_append_36 ?_
      refine jr_icmp_geN (tgt := 77) hg dX1_append_37 (by decide) (by omega) (by omega) (fun h => by omega) (fun h37 => ?_)
      refine jr_aload_n hg 0 rfl rfl dX1_append_40 ?_
      refine gf_X1_18 hg (hI 1 (by decide)) dX1_append_41 ?_
      refine jr_aload_n hg 0 rfl rfl dX1_append_44 ?_
      refine gf_X1_34 hg (hI 1 (by decide)) dX1_append_45 ?_
      refine jr_top (hsz) ?_
      refine jr_lload_n hg 1 rfl rfl dX1_append_48 ?_
      refine jr_bipush hg (nI 8) dX1_append_49 (by decide) ?_
      refine jr_iload hg 2 rfl dX1_append_51 ?_
      refine jr_imulN hg dX1_append_53 ?_
      refine jr_lushr hg _ dX1_append_54 rfl ?_
      refine jr_ldc2 hg wm_11_1 dX1_append_55 ?_
      refine jr_topl (show (255 : Int64) = lN 255 by decide) ?_
      refine jr_land hg dX1_append_58 ?_
      refine jr_l2i hg _ dX1_append_59 rfl ?_
      refine jr_top (z_bt_u b (show k < 8 by omega)) ?_
      refine jr_iastN hg (n := 160) (by omega) (by decide) (hI 10 (by decide)) (ac_10) dX1_append_60 ?_
      refine jr_aload_n hg 0 rfl rfl dX1_append_61 ?_
      refine jr_dup hg dX1_append_62 rfl ?_
      refine gf_X1_34 hg (hI 1 (by decide)) dX1_append_63 ?_
      refine jr_top (hsz) ?_
      refine jr_iconst hg (nI 1) dX1_append_66 (by decide) ?_
      refine jr_iaddN hg dX1_append_67 ?_
      refine pf_X1_34 hg (hI 1 (by decide)) dX1_append_68 ?_
      refine jr_iinc hg 2 rfl (zmv k) (zmv_dec k) dX1_append_71 (by decide) rfl ?_
      refine jr_goto (tgt := 23) hg dX1_append_74 (by decide) ?_
      have e : s 0 4 + (n - (k + 1)) + 1 = s 0 4 + (n - k) := by omega
      refine jr_lv [1, 2, 0] rfl (ih _ (by rw [← e]; rfl) (fun j hj => ?_) hfp ((hs.si (by decide)).si (by decide)) (by omega))
      show upd (M1.1 10) (s 0 4 + (n - (k + 1))) _ j = _
      by_cases w : j = s 0 4 + (n - (k + 1))
      · rw [w, upd_s, z_fd_at (by omega)]
      · rw [upd_n w]; exact hby j (by omega)
  exact jr_lv [1, 3, 0] rfl (lp23 n M (by rw [Nat.sub_self]; exact Rt.1) (fun j hj => by rw [Nat.sub_self] at hj; rw [z_fd_o hj]; exact Rt.2.1 j hj) Rt.2.2 mm_same.rf (Nat.le_refl _))

theorem zX_fd {s : zS} {M M1 : mm_M} {n : Nat} {b : Int64} (h : zX s M) (f : mm_same [1, 10] M M1) (t : zX_t (zfeed s n b) M1) : zX (zfeed s n b) M1 :=
  ⟨zX_p_c (f.at (by decide)) h.1, zX_l_c (f.at (by decide)) h.2.1, zX_k_c (f.at (by decide)) h.2.2.1, zX_w_c (f.at (by decide)) h.2.2.2.1, t, (congrFun (f 0 (by decide)).2 0).trans h.2.2.2.2.2.1, zX_o_c (f.at (by decide)) h.2.2.2.2.2.2.1, zX_q_c (f.at (by decide)) h.2.2.2.2.2.2.2⟩

set_option maxRecDepth 100000 in
theorem c_X7_feed {E : mm_E} (hI : mm_FX E) {M : mm_M} {s : zS} (hR : zX s M) (hW : zW s) (x : Int32) (b : Int64) : mm_Cal E mX7_feed [.ref (E.1 7), .int x, .long b] M (fun v M' => v = some (.int (zq_feed s x b).1) ∧ zX (zq_feed s x b).2 M') := by
  obtain ⟨Rp, Rl, Rk, Rw, Rt, Rd, Ro, Rq⟩ := hR
  obtain ⟨Wp, Wl, Wk, Ww, Wt, Wd, Wo, Wq⟩ := hW
  have hnp := Wp.1
  have hnl := Wl.1
  have hnk := Wk.1
  have hall : zX s M := ⟨Rp, Rl, Rk, Rw, Rt, Rd, Ro, Rq⟩
  have wall : zW s := ⟨Wp, Wl, Wk, Ww, Wt, Wd, Wo, Wq⟩
  refine jr_entry RX7 (by decide +kernel) (Nat.le_of_ble_eq_true rfl) (fun g hg => ?_)
  refine jr_lv (lv' := [(0, .ref (E.1 7)), (1, .int x), (2, .long b)]) [0, 1, 2] rfl ?_
  refine jr_iload_n hg 1 rfl rfl dX7_feed_0 ?_
  refine jr_iconst hg (nI 1) dX7_feed_1 (by decide) ?_
  refine jr_bipush hg (nI 8) dX7_feed_2 (by decide) ?_
  refine jr_cS3v hg lk_X7_62 (by decide) (by decide) (Nat.le_of_ble_eq_true rfl) dX7_feed_4 (c_X7_isWithinW hI x (by decide) (by decide)) ?_
  refine jr_if_neZ (tgt := 14) hg dX7_feed_7 (by decide) (fun h7 => ?_) (fun h7 => ?_)
  · obtain ⟨j, hj1, hj8, rfl⟩ := zwi_of (by decide) h7
    rcases Nat.lt_or_ge 160 (s 0 4 + j) with hf | hf
    · skip
      refine jr_aload_n hg 0 rfl rfl dX7_feed_14 ?_
      refine gf_X7_10 hg (hI 7 (by decide)) dX7_feed_15 ?_
      refine jr_iload_n hg 1 rfl rfl dX7_feed_18 ?_
      refine jr_lload_n hg 2 rfl rfl dX7_feed_19 ?_
      refine jr_cV2v hg lk_X7_91 (hI 1 (by decide)) rfl rfl (by decide) (by decide) (Nat.le_of_ble_eq_true rfl) dX7_feed_20 (c_append_full hI Rt Wt hj8 hf) ?_
      exact jr_iret hg rfl dX7_feed_23 (zq_ok (by rw [zq_feed, if_pos h7, zn_nI (by omega), if_neg (by omega)]) hall)
    · skip
      refine jr_aload_n hg 0 rfl rfl dX7_feed_14 ?_
      refine gf_X7_10 hg (hI 7 (by decide)) dX7_feed_15 ?_
      refine jr_iload_n hg 1 rfl rfl dX7_feed_18 ?_
      refine jr_lload_n hg 2 rfl rfl dX7_feed_19 ?_
      refine jr_cV2p hg lk_X7_91 (hI 1 (by decide)) rfl rfl (by decide) (by decide) (Nat.le_of_ble_eq_true rfl) dX7_feed_20 (c_X1_append hI Rt Wt hj1 hj8 hf) (fun r M' h => ?_)
      obtain ⟨rfl, x, f⟩ := h
      exact jr_iret hg rfl dX7_feed_23 (zq_ok (by rw [zq_feed, if_pos h7, zn_nI (by omega), if_pos hf]) (zX_fd hall f x))
  · refine jr_sipush hg (-1002) dX7_feed_10 (by decide) ?_
    exact jr_iret hg rfl dX7_feed_13 (zq_ok (by rw [zq_feed, if_neg (by rw [h7]; decide)]) hall)
