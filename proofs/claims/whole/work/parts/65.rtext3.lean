theorem z_tb : ∀ t, t < 256 → ∀ w, w < 8 → (nI t >>> (nI w &&& 31)) &&& nI 1 = nI (t.testBit w).toNat := by decide +kernel
theorem z_tb2 : ∀ t, t < 256 → ∀ w, w < 8 → nI t ||| (nI 1 <<< (nI w &&& 31)) = nI (t ||| 2 ^ w) ∧ t ||| 2 ^ w < 256 := by decide +kernel
theorem zlo_e : ∀ w, w < 8 → zlo w = if w = 4 ∨ w = 7 then 34 else if w = 5 ∨ w = 6 then 1 else 0 := by decide +kernel
theorem zhi_e : ∀ w, w < 8 → zhi w = if w < 3 then 100 else if w = 5 then 8 else if w = 6 then 9 else 99 := by decide +kernel
theorem z_nl_up (rv : Nat → Nat) (w v : Nat) : zup (z_nl rv) w v = z_nl (zup rv w (v + 1)) := by
  funext j
  by_cases e : j = w
  · rw [e, zup_s, z_nl, zup_s, if_neg (by omega)]; rfl
  · rw [zup_n e, z_nl, z_nl, zup_n e]
theorem z_hv_59 {s : zS} (Wt : zW_t s) (d : Nat) : z_hv s d = nI 59 ↔ d < s 0 4 ∧ s 11 d = 59 := by
  rw [z_hv]
  by_cases h : d < s 0 4
  · have := Wt.2 d h
    rw [if_pos h]
    refine ⟨fun q => ⟨h, ?_⟩, fun q => by rw [q.2]⟩
    have q2 := congrArg Int32.toInt q
    rw [nI_toInt (by omega), nI_toInt (by decide)] at q2
    omega
  · rw [if_neg h]
    exact ⟨fun q => absurd q (by decide), fun q => absurd q.1 h⟩
theorem z_cfv_a {s : zS} {rv : Nat → Nat} {b w e b2 e2 d : Nat} (hq : z_wq s rv b = 0) (hw : z_w s b = w + 1) (hwe : z_we s b = e) (hb2 : z_sp s e = b2) (he2 : z_ne s b2 = e2) (hd : z_sp s e2 = d) (h2 : z_nf s w b2 = 0) (q : d < s 0 4 ∧ s 11 d = 59) : z_cf s rv b = (0, d + 1) := by
  subst hwe; subst hb2; subst he2; subst hd; exact z_cf_a hq hw h2 q
theorem z_cfv_b {s : zS} {rv : Nat → Nat} {b w e b2 e2 d : Nat} (hq : z_wq s rv b = 0) (hw : z_w s b = w + 1) (hwe : z_we s b = e) (hb2 : z_sp s e = b2) (he2 : z_ne s b2 = e2) (hd : z_sp s e2 = d) (h2 : z_nf s w b2 = 0) (q : ¬ (d < s 0 4 ∧ s 11 d = 59)) : z_cf s rv b = (1, d) := by
  subst hwe; subst hb2; subst he2; subst hd; exact z_cf_b hq hw h2 q
theorem z_cfv_u {s : zS} {rv : Nat → Nat} {b w e b2 : Nat} (hq : z_wq s rv b = 0) (hw : z_w s b = w + 1) (hwe : z_we s b = e) (hb2 : z_sp s e = b2) (h2 : z_nf s w b2 ≠ 0) : z_cf s rv b = (z_nf s w b2, b2) := by
  subst hwe; subst hb2; exact z_cf_u hq hw h2
theorem z_cfv_0 {s : zS} {rv : Nat → Nat} {b : Nat} (hw : z_w s b = 0) : z_cf s rv b = (1, b) := by
  have e : z_wq s rv b = 1 := by rw [z_wq, if_pos hw]
  rw [z_cf_w (by rw [e]; decide), e]
theorem z_cfv_3 {s : zS} {rv : Nat → Nat} {b w : Nat} (hw : z_w s b = w + 1) (h : rv w ≠ 0) : z_cf s rv b = (3, b) := by
  have e : z_wq s rv b = 3 := by rw [z_wq, hw, if_neg (by omega), Nat.add_sub_cancel, if_neg h]
  rw [z_cf_w (by rw [e]; decide), e]
theorem z_wqv {s : zS} {rv : Nat → Nat} {b w : Nat} (hw : z_w s b = w + 1) (h : rv w = 0) : z_wq s rv b = 0 := by rw [z_wq, hw, if_neg (by omega), Nat.add_sub_cancel, if_pos h]
theorem z_cvv {s : zS} {rv : Nat → Nat} {b w e b2 : Nat} (hw : z_w s b = w + 1) (hwe : z_we s b = e) (hb2 : z_sp s e = b2) : z_cv s rv b = zup rv w (z_vv s b2 + 1) := by
  subst hwe; subst hb2; rw [z_cv, hw, Nat.add_sub_cancel]
theorem z_nt_up {rv : Nat → Nat} {w v : Nat} (h : rv w = 0) : ∀ n, w < n → zcnt (z_nt (zup rv w (v + 1))) n = zcnt (z_nt rv) n + 1 := by
  have h0 : ∀ n, n ≤ w → zcnt (z_nt (zup rv w (v + 1))) n = zcnt (z_nt rv) n := fun n hn => zcnt_congr (fun k hk => by rw [z_nt, z_nt, zup_n (by omega)])
  intro n
  induction n with
  | zero => intro hn; omega
  | succ n ih =>
    intro hn
    rw [zcnt_s, zcnt_s]
    by_cases e : n = w
    · rw [h0 n (by omega), e, z_nt, zup_s, z_nt, h]; rfl
    · rw [ih (by omega), z_nt, z_nt, zup_n e]; omega
theorem z_tb_up {rv : Nat → Nat} {t w v : Nat} (h : ∀ j, j < 8 → t.testBit j = z_nt rv j) : ∀ j, j < 8 → (t ||| 2 ^ w).testBit j = z_nt (zup rv w (v + 1)) j := by
  intro j hj
  rw [Nat.testBit_or, Nat.testBit_two_pow, h j hj]
  by_cases e : j = w
  · subst e
    have : z_nt (zup rv j (v + 1)) j = true := by rw [z_nt, zup_s]; rfl
    rw [this]; simp
  · have : z_nt (zup rv w (v + 1)) j = z_nt rv j := by rw [z_nt, z_nt, zup_n e]
    rw [this]; simp [Ne.symm e]
theorem zR_rd3 {s : zS} {M M1 : mm_M} (h : zR s M) (f1 : ∀ d, d ∉ [35, 36, 37] → M1.1 d = M.1 d) (f2 : ∀ j, 8 < j → M1.1 35 j = M.1 35 j) (t : zR_t (zq_read s).2 M1) (w : zR_w (zq_read s).2 M1) : zR (zq_read s).2 M1 := by
  obtain ⟨pf, pp, prv, hpr⟩ : ∃ pf pp prv, z_pr s = (pf, pp, prv) := ⟨_, _, _, rfl⟩
  have g : ∀ {ds : List Nat}, (∀ c, c ∈ ds → c ∉ [35, 36, 37]) → ∀ d, d ∈ ds → M1.1 d = M.1 d := fun hd d q => f1 d (hd d q)
  by_cases q : pf = 0
  · subst q
    rw [zq_read_p hpr] at t w ⊢
    exact ⟨zR_p_c (f2 9 (by decide)) (g (by decide)) h.1, zR_l_c (f2 15 (by decide)) (g (by decide)) h.2.1, zR_k_c (f2 17 (by decide)) (g (by decide)) h.2.2.1, w, t, zR_d_c (f2 21 (by decide)) h.2.2.2.2.2.1, zR_o_c (f2 25 (by decide)) (g (by decide)) h.2.2.2.2.2.2.1, zR_q_c (f2 31 (by decide)) (g (by decide)) h.2.2.2.2.2.2.2⟩
  · rw [zq_read_n hpr q] at t w ⊢
    exact ⟨zR_p_c (f2 9 (by decide)) (g (by decide)) h.1, zR_l_c (f2 15 (by decide)) (g (by decide)) h.2.1, zR_k_c (f2 17 (by decide)) (g (by decide)) h.2.2.1, w, t, zR_d_c (f2 21 (by decide)) h.2.2.2.2.2.1, zR_o_c (f2 25 (by decide)) (g (by decide)) h.2.2.2.2.2.2.1, zR_q_c (f2 31 (by decide)) (g (by decide)) h.2.2.2.2.2.2.2⟩

theorem zR_f1 {M M1 : mm_M} {r : Nat → Int32} (h : mm_same [35, 37] M M1) : ∀ d, d ∉ [35, 36, 37] → (mm_si M1 35 r).1 d = M.1 d := by
  intro d hd
  have h1 : d ≠ 35 := fun e => hd (by rw [e]; decide)
  have h2 : d ∉ [35, 37] := fun q => hd (by
    rcases List.mem_cons.mp q with q | q
    · rw [q]; decide
    · rcases List.mem_cons.mp q with q | q
      · rw [q]; decide
      · cases q)
  show (if d = 35 then r else M1.1 d) = _
  rw [if_neg h1]; exact (h d h2).1
theorem zR_f2 {M M1 M2 : mm_M} {r : Nat → Int32} (h : mm_same [35, 37] M M1) (h36 : mm_same [36] (mm_si M1 35 r) M2) : ∀ d, d ∉ [35, 36, 37] → M2.1 d = M.1 d := by
  intro d hd
  exact (h36 d (fun q => hd (by rw [List.mem_singleton.mp q]; decide))).1.trans (zR_f1 h d hd)

set_option maxRecDepth 100000 in
theorem c_readP {E : mm_E} (hI : mm_FR E) {M : mm_M} {s : zS} (hR : zR s M) (hW : zW s) {pf pp : Nat} {prv : Nat → Nat} (hpr : z_pr s = (pf, pp, prv)) (hp3 : pf ≤ 3) : mm_Cal E mX8_read [.ref (E.1 35)] M (fun v M' => v = some (.int (zq_read s).1) ∧ zR (zq_read s).2 M') := by
  have Wt := hW.2.2.2.2.1
  have Rt := hR.2.2.2.2.1
  have hn := Wt.1
  refine jr_entry RX8 (by decide +kernel) (Nat.le_of_ble_eq_true rfl) (fun g hg => ?_)
  refine jr_lv (lv' := [(0, .ref (E.1 35))]) [0] rfl ?_
  refine jr_aload_n hg 0 rfl rfl dX8_read_0 ?_
  refine jr_iconst hg (nI 0) dX8_read_1 (by decide) ?_
  refine pf_X8_109 hg (hI 35 (by decide)) dX8_read_2 ?_
  refine jr_aload_n hg 0 rfl rfl dX8_read_5 ?_
  refine jr_iconst hg (nI 0) dX8_read_6 (by decide) ?_
  refine pf_X8_112 hg (hI 35 (by decide)) dX8_read_7 ?_
  refine jr_aload_n hg 0 rfl rfl dX8_read_10 ?_
  refine jr_iconst hg (-1) dX8_read_11 (by decide) ?_
  refine pf_X8_19 hg (hI 35 (by decide)) dX8_read_12 ?_
  refine jr_iconst hg (nI 0) dX8_read_15 (by decide) ?_
  refine jr_istore_n hg dX8_read_16 rfl (by decide) rfl ?_
  refine jr_iconst hg (nI 0) dX8_read_17 (by decide) ?_
  refine jr_istore_n hg dX8_read_18 rfl (by decide) rfl ?_
  have lp19 : ∀ i : Nat, i ≤ 8 → ∀ M1, (∀ j, j < i → M1.1 37 j = nI (zfi j)) → zft M M1 → M1.1 35 4 = nI 0 → M1.1 35 7 = nI 0 → M1.1 35 8 = -1 → mm_J g E mX8_read (fun v M' => v = some (.int (zq_read s).1) ∧ zR (zq_read s).2 M') 19 [(0, .ref (E.1 35)), (1, .int (nI 0)), (2, .int (nI i))] [] (M1) := by
    refine jr_up (S := fun i => ∀ M1, (∀ j, j < i → M1.1 37 j = nI (zfi j)) → zft M M1 → M1.1 35 4 = nI 0 → M1.1 35 7 = nI 0 → M1.1 35 8 = -1 → mm_J g E mX8_read (fun v M' => v = some (.int (zq_read s).1) ∧ zR (zq_read s).2 M') 19 [(0, .ref (E.1 35)), (1, .int (nI 0)), (2, .int (nI i))] [] (M1)) (n := 8) ?_ ?_
    · intro M1 hrow hs1 g4 g7 g8
      show mm_J g E mX8_read (fun v M' => v = some (.int (zq_read s).1) ∧ zR (zq_read s).2 M') 19 [(0, .ref (E.1 35)), (1, .int (nI 0)), (2, .int (nI (8)))] [] (M1)
      refine jr_iload_n hg 2 rfl rfl dX8_read_19 ?_
      refine jr_bipush hg (nI 8) dX8_read_20 (by decide) ?_
      refine jr_icmp_geN (tgt := 41) hg dX8_read_22 (by decide) (by omega) (by omega) (fun h22 => ?_) (fun h => by omega)
      refine jr_iconst hg (nI 0) dX8_read_41 (by decide) ?_
      have ct323 : ∀ (M5 : mm_M) (rv : Nat → Nat) (a c : Nat), zR_g s (z_nl rv) a 0 (-1) M5 → zft M M5 → zcnt (z_nt rv) 8 = c → c ≤ 8 → z_pr s = (0, 0, rv) → mm_J g E mX8_read (fun v M' => v = some (.int (zq_read s).1) ∧ zR (zq_read s).2 M') 323 [(0, .ref (E.1 35)), (2, .int (nI c))] [] (M5) := by
        intro M5 rv a c hx hs hcz hc8 hprv
        refine jr_aload_n hg 0 rfl rfl dX8_read_323 ?_
        refine jr_iconst hg (nI 0) dX8_read_324 (by decide) ?_
        refine pf_X8_104 hg (hI 35 (by decide)) dX8_read_325 ?_
        refine jr_aload_n hg 0 rfl rfl dX8_read_328 ?_
        refine gf_X8_112 hg (hI 35 (by decide)) dX8_read_329 ?_
        refine jr_top (hx.2.2.2.2.1) ?_
        refine jr_if_leN (tgt := 343) hg dX8_read_332 (by decide) (by omega) (fun h332 => ?_) (fun h => by omega)
        refine jr_iconst hg (nI 0) dX8_read_343 (by decide) ?_
        refine jr_istore_n hg dX8_read_344 rfl (by decide) rfl ?_
        have lp345 : ∀ i : Nat, i ≤ 8 → ∀ M6, (∀ j, j < i → M6.1 36 j = nI (z_nl rv j)) → mm_same [36] (mm_si M5 35 (upd (M5.1 35) 3 (nI 0))) M6 → mm_J g E mX8_read (fun v M' => v = some (.int (zq_read s).1) ∧ zR (zq_read s).2 M') 345 [(0, .ref (E.1 35)), (2, .int (nI c)), (3, .int (nI i))] [] (M6) := by
          refine jr_up (S := fun i => ∀ M6, (∀ j, j < i → M6.1 36 j = nI (z_nl rv j)) → mm_same [36] (mm_si M5 35 (upd (M5.1 35) 3 (nI 0))) M6 → mm_J g E mX8_read (fun v M' => v = some (.int (zq_read s).1) ∧ zR (zq_read s).2 M') 345 [(0, .ref (E.1 35)), (2, .int (nI c)), (3, .int (nI i))] [] (M6)) (n := 8) ?_ ?_
          · intro M6 hrow h36
            show mm_J g E mX8_read (fun v M' => v = some (.int (zq_read s).1) ∧ zR (zq_read s).2 M') 345 [(0, .ref (E.1 35)), (2, .int (nI c)), (3, .int (nI (8)))] [] (M6)
            refine jr_iload_n hg 2 rfl rfl dX8_read_345 ?_
            refine jr_bipush hg (nI 8) dX8_read_346 (by decide) ?_
            refine jr_icmp_geN (tgt := 369) hg dX8_read_348 (by decide) (by omega) (by omega) (fun h348 => ?_) (fun h => by omega)
            refine jr_iload_n hg 1 rfl rfl dX8_read_369 ?_
            exact jr_iret hg rfl dX8_read_370 (⟨by rw [zq_read_p hprv, hcz], zR_rd3 hR (fun d hd => zR_f2 hs.1 h36 d hd) (fun j hj => (congrFun (h36 35 (by decide)).1 j).trans ((upd_n (by omega)).trans (hs.2 j (Or.inr hj)))) (by rw [zq_read_p hprv]; exact ⟨congrFun (h36 35 (by decide)).1 3, fun j hj => absurd hj (Nat.not_lt_zero _), (congrFun (h36 35 (by decide)).1 8).trans hx.2.2.2.2.2⟩) (by rw [zq_read_p hprv]; exact hrow)⟩)
          · intro i hi ih5 M6 hrow h36
            show mm_J g E mX8_read (fun v M' => v = some (.int (zq_read s).1) ∧ zR (zq_read s).2 M') 345 [(0, .ref (E.1 35)), (2, .int (nI c)), (3, .int (nI i))] [] (M6)
            have hi8 : i < 8 := hi
            have g37 : M6.1 37 i = nI (z_nl rv i) := (congrFun (h36 37 (by decide)).1 i).trans (hx.2.2.1 i hi8)
            refine jr_iload_n hg 2 rfl rfl dX8_read_345 ?_
            refine jr_bipush hg (nI 8) dX8_read_346 (by decide) ?_
            refine jr_icmp_geN (tgt := 369) hg dX8_read_348 (by decide) (by omega) (by omega) (fun h => by omega) (fun h348 => ?_)
            refine jr_aload_n hg 0 rfl rfl dX8_read_351 ?_
            refine gf_X8_7 hg (hI 35 (by decide)) dX8_read_352 ?_
            refine jr_iload_n hg 2 rfl rfl dX8_read_355 ?_
            refine jr_aload_n hg 0 rfl rfl dX8_read_356 ?_
            refine gf_X8_13 hg (hI 35 (by decide)) dX8_read_357 ?_
            refine jr_iload_n hg 2 rfl rfl dX8_read_360 ?_
            refine jr_ialdN hg (n := 8) (by omega) (by decide) (hI 37 (by decide)) (ac_37 _ _) dX8_read_361 ?_
            refine jr_top (g37) ?_
            refine jr_iastN hg (n := 8) (by omega) (by decide) (hI 36 (by decide)) (ac_36) dX8_read_362 ?_
            refine jr_iinc hg 2 rfl (nI (_ + 1)) (nI_1 _) dX8_read_363 (by decide) rfl ?_
            refine jr_goto (tgt := 345) hg dX8_read_366 (by decide) ?_
            exact jr_lv [1, 2, 0] rfl (ih5 (mm_si M6 36 (upd (M6.1 36) i (nI (z_nl rv i)))) (fun j hj => by show upd (M6.1 36) i (nI (z_nl rv i)) j = _; by_cases e : j = i; rw [e, upd_s]; rw [upd_n e]; exact hrow j (by omega)) (h36.si (by decide)))
        exact jr_lv [1, 2, 0] rfl (lp345 0 (by omega) _ (fun j hj => by omega) mm_same.rf)
      have ctF : ∀ (M5 : mm_M) (nl : Nat → Nat) (a t c : Nat), zR_g s nl a pf (nI pp) M5 → pf ≠ 0 → zft M M5 → mm_J g E mX8_read (fun v M' => v = some (.int (zq_read s).1) ∧ zR (zq_read s).2 M') 43 [(0, .ref (E.1 35)), (1, .int (nI t)), (2, .int (nI c))] [] (M5) := by
        intro M5 nl a t c hx hp0 hs
        refine jr_aload_n hg 0 rfl rfl dX8_read_43 ?_
        refine gf_X8_112 hg (hI 35 (by decide)) dX8_read_44 ?_
        refine jr_top (hx.2.2.2.2.1) ?_
        refine jr_if_neN (tgt := 323) hg dX8_read_47 (by decide) (by omega) (fun h47 => ?_) (fun h => by omega)
        refine jr_aload_n hg 0 rfl rfl dX8_read_323 ?_
        refine jr_iconst hg (nI 0) dX8_read_324 (by decide) ?_
        refine pf_X8_104 hg (hI 35 (by decide)) dX8_read_325 ?_
        refine jr_aload_n hg 0 rfl rfl dX8_read_328 ?_
        refine gf_X8_112 hg (hI 35 (by decide)) dX8_read_329 ?_
        refine jr_top (hx.2.2.2.2.1) ?_
        refine jr_if_leN (tgt := 343) hg dX8_read_332 (by decide) (by omega) (fun h => by omega) (fun h332 => ?_)
        refine jr_bipush hg (-10) dX8_read_335 (by decide) ?_
        refine jr_aload_n hg 0 rfl rfl dX8_read_337 ?_
        refine gf_X8_112 hg (hI 35 (by decide)) dX8_read_338 ?_
        refine jr_top (hx.2.2.2.2.1) ?_
        refine jr_isub hg dX8_read_341 ?_
        exact jr_iret hg rfl dX8_read_342 (⟨by rw [zq_read_n hpr hp0], zR_rd3 hR (fun d hd => zR_f1 hs.1 d hd) (fun j hj => (upd_n (by omega)).trans (hs.2 j (Or.inr hj))) (by rw [zq_read_n hpr hp0]; exact ⟨rfl, fun j hj => absurd hj (Nat.not_lt_zero _), hx.2.2.2.2.2.trans (zmv_s _).symm⟩) (by rw [zq_read_n hpr hp0]; exact fun j hj => (congrFun (hs.1 36 (by decide)).1 j).trans (hR.2.2.2.1 j hj))⟩)
      refine jr_istore_n hg dX8_read_42 rfl (by decide) rfl ?_
      have lp43 : ∀ c : Nat, c ≤ 9 → ∀ (M2 : mm_M) (rv : Nat → Nat) (t a : Nat), zR_g s (z_nl rv) a 0 (-1) M2 → zft M M2 → a ≤ s 0 4 → z_rvk rv → zcnt (z_nt rv) 8 = c → (∀ j, j < 8 → t.testBit j = z_nt rv j) → t < 256 → z_ps s (9 - c) rv (z_sp s a) = (pf, pp, prv) → mm_J g E mX8_read (fun v M' => v = some (.int (zq_read s).1) ∧ zR (zq_read s).2 M') 43 [(0, .ref (E.1 35)), (1, .int (nI t)), (2, .int (nI c))] [] (M2) := by
        refine jr_up (S := fun c => ∀ (M2 : mm_M) (rv : Nat → Nat) (t a : Nat), zR_g s (z_nl rv) a 0 (-1) M2 → zft M M2 → a ≤ s 0 4 → z_rvk rv → zcnt (z_nt rv) 8 = c → (∀ j, j < 8 → t.testBit j = z_nt rv j) → t < 256 → z_ps s (9 - c) rv (z_sp s a) = (pf, pp, prv) → mm_J g E mX8_read (fun v M' => v = some (.int (zq_read s).1) ∧ zR (zq_read s).2 M') 43 [(0, .ref (E.1 35)), (1, .int (nI t)), (2, .int (nI c))] [] (M2)) (n := 9) ?_ ?_
        · intro M2 rv t a hx hs ha hrv hcz htb ht hz
          show mm_J g E mX8_read (fun v M' => v = some (.int (zq_read s).1) ∧ zR (zq_read s).2 M') 43 [(0, .ref (E.1 35)), (1, .int (nI t)), (2, .int (nI (9)))] [] (M2)
          have q8 := zcnt_le (z_nt rv) 8
          exfalso; omega
        · intro c hc ih M2 rv t a hx hs ha hrv hcz htb ht hz
          show mm_J g E mX8_read (fun v M' => v = some (.int (zq_read s).1) ∧ zR (zq_read s).2 M') 43 [(0, .ref (E.1 35)), (1, .int (nI t)), (2, .int (nI c))] [] (M2)
          refine jr_aload_n hg 0 rfl rfl dX8_read_43 ?_
          refine gf_X8_112 hg (hI 35 (by decide)) dX8_read_44 ?_
          refine jr_top (hx.2.2.2.2.1) ?_
          refine jr_if_neN (tgt := 323) hg dX8_read_47 (by decide) (by omega) (fun h => by omega) (fun h47 => ?_)
          have ct271 : ∀ (M5 : mm_M) (nl : Nat → Nat) (a t5 : Nat), zR_g s nl a pf (nI pp) M5 → pf ≠ 0 → zft M M5 → mm_J g E mX8_read (fun v M' => v = some (.int (zq_read s).1) ∧ zR (zq_read s).2 M') 271 [(0, .ref (E.1 35)), (1, .int (nI t5)), (2, .int (nI c))] [] (M5) := by
            intro M5 nl a t5 x7 hp0 hs5
            refine jr_aload_n hg 0 rfl rfl dX8_read_271 ?_
            refine gf_X8_112 hg (hI 35 (by decide)) dX8_read_272 ?_
            refine jr_top (x7.2.2.2.2.1) ?_
            refine jr_if_neN (tgt := 317) hg dX8_read_275 (by decide) (by omega) (fun h275 => ?_) (fun h => by omega)
            refine jr_iinc hg 2 rfl (nI (_ + 1)) (nI_1 _) dX8_read_317 (by decide) rfl ?_
            refine jr_goto (tgt := 43) hg dX8_read_320 (by decide) ?_
            exact jr_lv [1, 2, 0] rfl (ctF M5 nl a t5 (c + 1) x7 hp0 hs5)
          refine jr_aload_n hg 0 rfl rfl dX8_read_50 ?_
          refine jr_cV0p hg lk_X8_125 (hI 35 (by decide)) rfl rfl (by decide) (by decide) (Nat.le_of_ble_eq_true rfl) dX8_read_51 (c_X8_here hI hx Wt ha) (fun r M' h => ?_)
          obtain ⟨rfl, x1, f1⟩ := h
          refine jr_st (show _ = [.int (z_hv s (z_sp s a))] from rfl) ?_
          obtain ⟨b, hb⟩ : ∃ b, z_sp s a = b := ⟨_, rfl⟩
          have hbn0 : b ≤ s 0 4 := by rw [← hb]; exact z_sp_n ha
          rw [hb] at x1 hz
          rw [hb]
          by_cases hbn : b < s 0 4
          · refine jr_top (show z_hv s b = nI (s 11 b) from if_pos hbn) ?_
            have hbb := Wt.2 b hbn
            refine jr_if_ltN hg dX8_read_54 (tgt := 323) (by decide) (by omega) ?_
            obtain ⟨e, hwe⟩ : ∃ e, z_we s b = e := ⟨_, rfl⟩
            have he : e ≤ s 0 4 := by rw [← hwe]; exact z_we_n (by omega)
            have hbe : b ≤ e := by rw [← hwe]; exact z_ru_ge _ _ _
            rw [show 9 - c = (9 - (c + 1)) + 1 by omega] at hz
            have ct111 : ∀ M3 : mm_M, zR_g s (z_nl rv) e 0 (-1) M3 → M3.1 35 5 = nI b → zft M M3 → mm_J g E mX8_read (fun v M' => v = some (.int (zq_read s).1) ∧ zR (zq_read s).2 M') 111 [(0, .ref (E.1 35)), (1, .int (nI t)), (2, .int (nI c))] [] (M3) := by
              intro M3 hx hF hs3
              refine jr_aload_n hg 0 rfl rfl dX8_read_111 ?_
              refine jr_aload_n hg 0 rfl rfl dX8_read_112 ?_
              refine gf_X8_109 hg (hI 35 (by decide)) dX8_read_113 ?_
              refine jr_top (hx.2.2.2.1) ?_
              refine jr_aload_n hg 0 rfl rfl dX8_read_116 ?_
              refine gf_X8_118 hg (hI 35 (by decide)) dX8_read_117 ?_
              refine jr_top (hF) ?_
              refine jr_isubN hg dX8_read_120 (by omega) ?_
              refine pf_X8_115 hg (hI 35 (by decide)) dX8_read_121 ?_
              refine jr_aload_n hg 0 rfl rfl dX8_read_124 ?_
              refine gf_X8_118 hg (hI 35 (by decide)) dX8_read_125 ?_
              refine jr_top (hF) ?_
              refine jr_istore_n hg dX8_read_128 rfl (by decide) rfl ?_
              refine jr_aload_n hg 1 rfl rfl dX8_read_129 ?_
              refine jr_cV0v hg lk_X8_141 (hI 35 (by decide)) rfl rfl (by decide) (by decide) (Nat.le_of_ble_eq_true rfl) dX8_read_130 (c_X8_kindOf hI (hx.le _) Wt hF rfl hwe hbe he) ?_
              refine jr_istore hg dX8_read_133 (by decide) rfl ?_
              have hwl := z_w_le s b
              obtain ⟨w0, hw0⟩ : ∃ w0, z_w s b = w0 := ⟨_, rfl⟩
              rw [hw0] at hwl
              rw [hw0]
              rcases w0 with _ | w
              · skip
                refine jr_aload_n hg 2 rfl rfl dX8_read_135 ?_
                refine jr_iload hg 0 rfl dX8_read_136 ?_
                refine jr_if_lt (tgt := 145) hg dX8_read_138 (by decide) (fun h138 => ?_) (fun h => absurd zm1 h)
                refine jr_iconst hg (nI 0) dX8_read_145 (by decide) ?_
                refine jr_iconst hg (nI 1) dX8_read_146 (by decide) ?_
                refine jr_iload_n hg 1 rfl rfl dX8_read_147 ?_
                refine jr_cV3v hg lk_X8_133 (hI 35 (by decide)) rfl rfl (by decide) (by decide) (Nat.le_of_ble_eq_true rfl) dX8_read_148 (c_want_f hI (x := 1) (y := b) hx.2.2.2.2.1 (by decide) (by decide)) ?_
                refine jr_if_eqN (tgt := 271) hg dX8_read_151 (by decide) (by omega) (fun h151 => ?_) (fun h => by omega)
                rw [z_ps_s hbn (z_cfv_0 hw0), if_neg (by first | decide | exact hnz)] at hz
                have q1 := congrArg (fun q => q.1) hz
                have q2 := congrArg (fun q => q.2.1) hz
                simp only at q1 q2
                subst q1
                subst q2
                exact jr_lv [2, 3, 4] rfl (ct271 _ _ _ t ((hx.le (nI (e - b))).bl 1 b) (by decide) ((hs3.fl (by decide)).bl 1 b))
              · rw [zmv_s]
                have hw8 : w < 8 := by omega
                refine jr_aload_n hg 2 rfl rfl dX8_read_135 ?_
                refine jr_iload hg 0 rfl dX8_read_136 ?_
                refine jr_if_ltN hg dX8_read_138 (tgt := 145) (by decide) (by omega) ?_
                refine jr_iconst hg (nI 1) dX8_read_141 (by decide) ?_
                refine jr_goto (tgt := 146) hg dX8_read_142 (by decide) ?_
                refine jr_iconst hg (nI 1) dX8_read_146 (by decide) ?_
                refine jr_iload_n hg 1 rfl rfl dX8_read_147 ?_
                refine jr_cV3v hg lk_X8_133 (hI 35 (by decide)) rfl rfl (by decide) (by decide) (Nat.le_of_ble_eq_true rfl) dX8_read_148 (c_want_t hI (x := 1) (y := b) hx.2.2.2.2.1) ?_
                refine jr_if_eqN (tgt := 271) hg dX8_read_151 (by decide) (by omega) (fun h => by omega) (fun h151 => ?_)
                refine jr_aload_n hg 2 rfl rfl dX8_read_154 ?_
                refine jr_iload_n hg 3 rfl rfl dX8_read_155 ?_
                refine jr_iload hg 0 rfl dX8_read_156 ?_
                refine jr_ishr hg dX8_read_158 ?_
                refine jr_iconst hg (nI 1) dX8_read_159 (by decide) ?_
                refine jr_iand hg dX8_read_160 ?_
                refine jr_top (z_tb t ht w hw8) ?_
                refine jr_if_neZ (tgt := 168) hg dX8_read_161 (by decide) (fun h161 => ?_) (fun h161 => ?_)
                · refine jr_iconst hg (nI 0) dX8_read_168 (by decide) ?_
                  refine jr_iconst hg (nI 3) dX8_read_169 (by decide) ?_
                  refine jr_iload_n hg 1 rfl rfl dX8_read_170 ?_
                  refine jr_cV3v hg lk_X8_133 (hI 35 (by decide)) rfl rfl (by decide) (by decide) (Nat.le_of_ble_eq_true rfl) dX8_read_171 (c_want_f hI (x := 3) (y := b) hx.2.2.2.2.1 (by decide) (by decide)) ?_
                  refine jr_if_eqN (tgt := 271) hg dX8_read_174 (by decide) (by omega) (fun h174 => ?_) (fun h => by omega)
                  have hrw : rv w ≠ 0 := by have q := htb w hw8; rw [h161, z_nt] at q; simpa using q.symm
                  rw [z_ps_s hbn (z_cfv_3 hw0 hrw), if_neg (by first | decide | exact hnz)] at hz
                  have q1 := congrArg (fun q => q.1) hz
                  have q2 := congrArg (fun q => q.2.1) hz
                  simp only at q1 q2
                  subst q1
                  subst q2
                  exact jr_lv [2, 3, 4] rfl (ct271 _ _ _ t ((hx.le (nI (e - b))).bl 3 b) (by decide) ((hs3.fl (by decide)).bl 3 b))
                · refine jr_iconst hg (nI 1) dX8_read_164 (by decide) ?_
                  refine jr_goto (tgt := 169) hg dX8_read_165 (by decide) ?_
                  refine jr_iconst hg (nI 3) dX8_read_169 (by decide) ?_
                  refine jr_iload_n hg 1 rfl rfl dX8_read_170 ?_
                  refine jr_cV3v hg lk_X8_133 (hI 35 (by decide)) rfl rfl (by decide) (by decide) (Nat.le_of_ble_eq_true rfl) dX8_read_171 (c_want_t hI (x := 3) (y := b) hx.2.2.2.2.1) ?_
                  refine jr_if_eqN (tgt := 271) hg dX8_read_174 (by decide) (by omega) (fun h => by omega) (fun h174 => ?_)
                  refine jr_iload_n hg 3 rfl rfl dX8_read_177 ?_
                  refine jr_iconst hg (nI 1) dX8_read_178 (by decide) ?_
                  refine jr_iload hg 0 rfl dX8_read_179 ?_
                  refine jr_ishl hg dX8_read_181 ?_
                  refine jr_ior hg dX8_read_182 ?_
                  refine jr_top ((z_tb2 t ht w hw8).1) ?_
                  refine jr_istore_n hg dX8_read_183 rfl (by decide) rfl ?_
                  have hrw : rv w = 0 := by have q := htb w hw8; rw [h161, z_nt] at q; simpa using q.symm
                  have hq0 := z_wqv hw0 hrw
                  have ht2 := (z_tb2 t ht w hw8).2
                  obtain ⟨b2, hb2⟩ : ∃ b2, z_sp s e = b2 := ⟨_, rfl⟩
                  obtain ⟨e2, he2⟩ : ∃ e2, z_ne s b2 = e2 := ⟨_, rfl⟩
                  have hb2n : b2 ≤ s 0 4 := by rw [← hb2]; exact z_sp_n he
                  have he2n : e2 ≤ s 0 4 := by rw [← he2]; exact z_ne_n hb2n
                  obtain ⟨nf, hnf⟩ : ∃ nf, z_nf s w b2 = nf := ⟨_, rfl⟩
                  have hlh := z_lh w hw8
                  have hx4 := hx.le (nI (e - b))
                  have hs4 := hs3.fl (k := 6) (x := nI (e - b)) (by decide)
                  have ct267 :  mm_J g E mX8_read (fun v M' => v = some (.int (zq_read s).1) ∧ zR (zq_read s).2 M') 267 [(0, .ref (E.1 35)), (1, .int (nI (t ||| 2 ^ w))), (2, .int (nI c)), (4, .int (nI w))] [.int (nI (zhi w)), .int (nI (zlo w)), .ref (E.1 35), .int (nI w), .ref (E.1 37)] ((mm_si M3 35 (upd (M3.1 35) 6 (nI (e - b))))) := by
                    skip
                    refine jr_cV2p hg lk_X8_144 (hI 35 (by decide)) rfl rfl (by decide) (by decide) (Nat.le_of_ble_eq_true rfl) dX8_read_267 (c_X8_takeNumber hI hx4 Wt he hw8 hb2 he2 hnf) (fun r M' h => ?_)
                    obtain ⟨hcase, f6⟩ := h
                    by_cases hnz : nf = 0
                    · rw [if_pos hnz] at hcase
                      obtain ⟨rfl, x6⟩ := hcase
                      refine jr_st (show _ = [.int (nI (z_vv s b2)), .int (nI w), .ref (E.1 37)] from rfl) ?_
                      refine jr_iastN hg (n := 8) (by omega) (by decide) (hI 37 (by decide)) (ac_37) dX8_read_270 ?_
                      have x7 := x6.tl w (z_vv s b2)
                      rw [z_nl_up] at x7
                      have s7 : zft M (mm_si M' 37 (upd (M'.1 37) w (nI (z_vv s b2)))) := (hs4.tr f6).nl
                      obtain ⟨d, hd⟩ : ∃ d, z_sp s e2 = d := ⟨_, rfl⟩
                      have hdn : d ≤ s 0 4 := by rw [← hd]; exact z_sp_n he2n
                      have h59 := z_hv_59 Wt d
                      have hnf0 : z_nf s w b2 = 0 := by rw [hnf]; exact hnz
                      refine jr_aload_n hg 0 rfl rfl dX8_read_271 ?_
                      refine gf_X8_112 hg (hI 35 (by decide)) dX8_read_272 ?_
                      refine jr_top (x7.2.2.2.2.1) ?_
                      refine jr_if_neN (tgt := 317) hg dX8_read_275 (by decide) (by omega) (fun h => by omega) (fun h275 => ?_)
                      refine jr_aload_n hg 0 rfl rfl dX8_read_278 ?_
                      refine jr_cV0p hg lk_X8_125 (hI 35 (by decide)) rfl rfl (by decide) (by decide) (Nat.le_of_ble_eq_true rfl) dX8_read_279 (c_X8_here hI x7 Wt he2n) (fun r M' h => ?_)
                      obtain ⟨rfl, x8, f8⟩ := h
                      refine jr_st (show _ = [.int (z_hv s (z_sp s e2))] from rfl) ?_
                      rw [hd] at x8
                      rw [hd]
                      refine jr_istore hg dX8_read_282 (by decide) rfl ?_
                      refine jr_aload_n hg 1 rfl rfl dX8_read_284 ?_
                      refine jr_dup hg dX8_read_285 rfl ?_
                      refine gf_X8_109 hg (hI 35 (by decide)) dX8_read_286 ?_
                      refine jr_top (x8.2.2.2.1) ?_
                      refine jr_aload_n hg 1 rfl rfl dX8_read_289 ?_
                      refine jr_iload hg 0 rfl dX8_read_290 ?_
                      refine jr_bipush hg (nI 59) dX8_read_292 (by decide) ?_
                      refine jr_icmp_ne (tgt := 301) hg dX8_read_294 (by decide) (fun h294 => ?_) (fun h294 => ?_)
                      · refine jr_iconst hg (nI 0) dX8_read_301 (by decide) ?_
                        refine jr_iconst hg (nI 1) dX8_read_302 (by decide) ?_
                        refine jr_aload_n hg 1 rfl rfl dX8_read_303 ?_
                        refine gf_X8_109 hg (hI 35 (by decide)) dX8_read_304 ?_
                        refine jr_top (x8.2.2.2.1) ?_
                        refine jr_cV3v hg lk_X8_133 (hI 35 (by decide)) rfl rfl (by decide) (by decide) (Nat.le_of_ble_eq_true rfl) dX8_read_307 (c_want_f hI (x := 1) (y := d) x8.2.2.2.2.1 (by decide) (by decide)) ?_
                        refine jr_cS1v hg lk_X8_148 (by decide) (by decide) (Nat.le_of_ble_eq_true rfl) dX8_read_310 (c_X8_one hI (by decide)) ?_
                        refine jr_iaddN hg dX8_read_313 ?_
                        refine pf_X8_109 hg (hI 35 (by decide)) dX8_read_314 ?_
                        refine jr_iinc hg 3 rfl (nI (_ + 1)) (nI_1 _) dX8_read_317 (by decide) rfl ?_
                        refine jr_goto (tgt := 43) hg dX8_read_320 (by decide) ?_
                        have hnz := Nat.one_ne_zero
                        rw [z_ps_s hbn (z_cfv_b hq0 hw0 hwe hb2 he2 hd hnf0 (fun q => h294 (h59.mpr q))), if_neg (by decide)] at hz
                        have q1 := congrArg (fun q => q.1) hz
                        have q2 := congrArg (fun q => q.2.1) hz
                        simp only at q1 q2
                        subst q1
                        subst q2
                        exact jr_lv [2, 3, 0] rfl (ctF _ _ (d + 0) (t ||| 2 ^ w) (c + 1) ((x8.bl 1 d).pl (d + 0)) (by decide) (((s7.tr f8).bl 1 d).fl (by decide)))
                      · refine jr_iconst hg (nI 1) dX8_read_297 (by decide) ?_
                        refine jr_goto (tgt := 302) hg dX8_read_298 (by decide) ?_
                        refine jr_iconst hg (nI 1) dX8_read_302 (by decide) ?_
                        refine jr_aload_n hg 1 rfl rfl dX8_read_303 ?_
                        refine gf_X8_109 hg (hI 35 (by decide)) dX8_read_304 ?_
                        refine jr_top (x8.2.2.2.1) ?_
                        refine jr_cV3v hg lk_X8_133 (hI 35 (by decide)) rfl rfl (by decide) (by decide) (Nat.le_of_ble_eq_true rfl) dX8_read_307 (c_want_t hI (x := 1) (y := d) x8.2.2.2.2.1) ?_
                        refine jr_cS1v hg lk_X8_148 (by decide) (by decide) (Nat.le_of_ble_eq_true rfl) dX8_read_310 (c_X8_one hI (by decide)) ?_
                        refine jr_iaddN hg dX8_read_313 ?_
                        refine pf_X8_109 hg (hI 35 (by decide)) dX8_read_314 ?_
                        refine jr_iinc hg 3 rfl (nI (_ + 1)) (nI_1 _) dX8_read_317 (by decide) rfl ?_
                        refine jr_goto (tgt := 43) hg dX8_read_320 (by decide) ?_
                        have ecf := z_cfv_a (rv := rv) hq0 hw0 hwe hb2 he2 hd hnf0 (h59.mp h294)
                        have hdd := h59.mp h294
                        have hk2 : z_rvk (zup rv w (z_vv s b2 + 1)) := by rw [← z_cvv (rv := rv) hw0 hwe hb2]; exact z_cv_k hrv (by rw [ecf])
                        rw [z_ps_s hbn ecf, if_pos rfl, z_cvv hw0 hwe hb2] at hz
                        exact jr_lv [2, 3, 0] rfl (ih _ _ (t ||| 2 ^ w) (d + 1) (x8.pl (d + 1)) ((s7.tr f8).fl (by decide)) (by omega) hk2 (by rw [z_nt_up hrw 8 hw8, hcz]) (z_tb_up htb) ht2 hz)
                    · rw [if_neg hnz] at hcase
                      obtain ⟨⟨x, rfl⟩, a6, ha6, x6⟩ := hcase
                      refine jr_st (show _ = [.int (nI x), .int (nI w), .ref (E.1 37)] from rfl) ?_
                      refine jr_iastN hg (n := 8) (by omega) (by decide) (hI 37 (by decide)) (ac_37) dX8_read_270 ?_
                      have hnz2 : z_nf s w b2 ≠ 0 := by rw [hnf]; exact hnz
                      have ecf := z_cfv_u hq0 hw0 hwe hb2 hnz2
                      rw [hnf] at ecf
                      rw [z_ps_s hbn (ecf), if_neg (by first | decide | exact hnz)] at hz
                      have q1 := congrArg (fun q => q.1) hz
                      have q2 := congrArg (fun q => q.2.1) hz
                      simp only at q1 q2
                      subst q1
                      subst q2
                      exact jr_lv [0, 1, 2] rfl (ct271 _ _ _ (t ||| 2 ^ w) (x6.tl w x) hnz (hs4.tr f6).nl)
                  have ct222 :  mm_J g E mX8_read (fun v M' => v = some (.int (zq_read s).1) ∧ zR (zq_read s).2 M') 222 [(0, .ref (E.1 35)), (1, .int (nI (t ||| 2 ^ w))), (2, .int (nI c)), (4, .int (nI w)), (5, .int (nI (zlo w)))] [] ((mm_si M3 35 (upd (M3.1 35) 6 (nI (e - b))))) := by
                    skip
                    refine jr_aload_n hg 0 rfl rfl dX8_read_222 ?_
                    refine gf_X8_13 hg (hI 35 (by decide)) dX8_read_223 ?_
                    refine jr_iload hg 3 rfl dX8_read_226 ?_
                    refine jr_aload_n hg 0 rfl rfl dX8_read_228 ?_
                    refine jr_iload hg 4 rfl dX8_read_229 ?_
                    refine jr_iload hg 3 rfl dX8_read_231 ?_
                    refine jr_iconst hg (nI 3) dX8_read_233 (by decide) ?_
                    refine jr_icmp_geN (tgt := 242) hg dX8_read_234 (by decide) (by omega) (by omega) (fun h234 => ?_) (fun h234 => ?_)
                    · refine jr_iload hg 3 rfl dX8_read_242 ?_
                      refine jr_iconst hg (nI 5) dX8_read_244 (by decide) ?_
                      refine jr_icmp_neN (tgt := 253) hg dX8_read_245 (by decide) (by omega) (by omega) (fun h245 => ?_) (fun h245 => ?_)
                      · refine jr_iload hg 3 rfl dX8_read_253 ?_
                        refine jr_bipush hg (nI 6) dX8_read_255 (by decide) ?_
                        refine jr_icmp_neN (tgt := 265) hg dX8_read_257 (by decide) (by omega) (by omega) (fun h257 => ?_) (fun h257 => ?_)
                        · refine jr_bipush hg (nI 99) dX8_read_265 (by decide) ?_
                          refine jr_top (show nI 99 = nI (zhi w) by rw [zhi_e w hw8, if_neg (by omega), if_neg (by omega), if_neg (by omega)]) ?_
                          exact jr_lv [0, 1, 2, 3] rfl ct267
                        · refine jr_bipush hg (nI 9) dX8_read_260 (by decide) ?_
                          refine jr_goto (tgt := 267) hg dX8_read_262 (by decide) ?_
                          refine jr_top (show nI 9 = nI (zhi w) by rw [zhi_e w hw8, if_neg (by omega), if_neg (by omega), if_pos (by omega)]) ?_
                          exact jr_lv [0, 1, 2, 3] rfl ct267
                      · refine jr_bipush hg (nI 8) dX8_read_248 (by decide) ?_
                        refine jr_goto (tgt := 267) hg dX8_read_250 (by decide) ?_
                        refine jr_top (show nI 8 = nI (zhi w) by rw [zhi_e w hw8, if_neg (by omega), if_pos (by omega)]) ?_
                        exact jr_lv [0, 1, 2, 3] rfl ct267
                    · refine jr_bipush hg (nI 100) dX8_read_237 (by decide) ?_
                      refine jr_goto (tgt := 267) hg dX8_read_239 (by decide) ?_
                      refine jr_top (show nI 100 = nI (zhi w) by rw [zhi_e w hw8, if_pos (by omega)]) ?_
                      exact jr_lv [0, 1, 2, 3] rfl ct267
                  refine jr_iload hg 1 rfl dX8_read_184 ?_
                  refine jr_iconst hg (nI 4) dX8_read_186 (by decide) ?_
                  refine jr_icmp_eqN (tgt := 197) hg dX8_read_187 (by decide) (by omega) (by omega) (fun h187 => ?_) (fun h187 => ?_)
                  · refine jr_bipush hg (nI 34) dX8_read_197 (by decide) ?_
                    refine jr_goto (tgt := 220) hg dX8_read_199 (by decide) ?_
                    refine jr_top (show nI 34 = nI (zlo w) by rw [zlo_e w hw8, if_pos (by omega)]) ?_
                    refine jr_istore hg dX8_read_220 (by decide) rfl ?_
                    exact jr_lv [4, 1, 5, 2, 0] rfl ct222
                  · refine jr_iload hg 1 rfl dX8_read_190 ?_
                    refine jr_bipush hg (nI 7) dX8_read_192 (by decide) ?_
                    refine jr_icmp_neN (tgt := 202) hg dX8_read_194 (by decide) (by omega) (by omega) (fun h194 => ?_) (fun h194 => ?_)
                    · refine jr_iload hg 1 rfl dX8_read_202 ?_
                      refine jr_iconst hg (nI 5) dX8_read_204 (by decide) ?_
                      refine jr_icmp_eqN (tgt := 215) hg dX8_read_205 (by decide) (by omega) (by omega) (fun h205 => ?_) (fun h205 => ?_)
                      · refine jr_iconst hg (nI 1) dX8_read_215 (by decide) ?_
                        refine jr_goto (tgt := 220) hg dX8_read_216 (by decide) ?_
                        refine jr_top (show nI 1 = nI (zlo w) by rw [zlo_e w hw8, if_neg (by omega), if_pos (by omega)]) ?_
                        refine jr_istore hg dX8_read_220 (by decide) rfl ?_
                        exact jr_lv [4, 1, 5, 2, 0] rfl ct222
                      · refine jr_iload hg 1 rfl dX8_read_208 ?_
                        refine jr_bipush hg (nI 6) dX8_read_210 (by decide) ?_
                        refine jr_icmp_neN (tgt := 219) hg dX8_read_212 (by decide) (by omega) (by omega) (fun h212 => ?_) (fun h212 => ?_)
                        · refine jr_iconst hg (nI 0) dX8_read_219 (by decide) ?_
                          refine jr_top (show nI 0 = nI (zlo w) by rw [zlo_e w hw8, if_neg (by omega), if_neg (by omega)]) ?_
                          refine jr_istore hg dX8_read_220 (by decide) rfl ?_
                          exact jr_lv [4, 1, 5, 2, 0] rfl ct222
                        · refine jr_iconst hg (nI 1) dX8_read_215 (by decide) ?_
                          refine jr_goto (tgt := 220) hg dX8_read_216 (by decide) ?_
                          refine jr_top (show nI 1 = nI (zlo w) by rw [zlo_e w hw8, if_neg (by omega), if_pos (by omega)]) ?_
                          refine jr_istore hg dX8_read_220 (by decide) rfl ?_
                          exact jr_lv [4, 1, 5, 2, 0] rfl ct222
                    · refine jr_bipush hg (nI 34) dX8_read_197 (by decide) ?_
                      refine jr_goto (tgt := 220) hg dX8_read_199 (by decide) ?_
                      refine jr_top (show nI 34 = nI (zlo w) by rw [zlo_e w hw8, if_pos (by omega)]) ?_
                      refine jr_istore hg dX8_read_220 (by decide) rfl ?_
                      exact jr_lv [4, 1, 5, 2, 0] rfl ct222
            refine jr_aload_n hg 0 rfl rfl dX8_read_57 ?_
            refine jr_aload_n hg 0 rfl rfl dX8_read_58 ?_
            refine gf_X8_109 hg (hI 35 (by decide)) dX8_read_59 ?_
            refine jr_top (x1.2.2.2.1) ?_
            refine pf_X8_118 hg (hI 35 (by decide)) dX8_read_62 ?_
            have lp65 : ∀ p : Nat, p ≤ s 0 4 → ∀ M3, zR_g s (z_nl rv) p 0 (-1) M3 → M3.1 35 5 = nI b → zft M M3 → z_we s p = e → mm_J g E mX8_read (fun v M' => v = some (.int (zq_read s).1) ∧ zR (zq_read s).2 M') 65 [(0, .ref (E.1 35)), (1, .int (nI t)), (2, .int (nI c))] [] (M3) := by
              refine jr_up (S := fun p => ∀ M3, zR_g s (z_nl rv) p 0 (-1) M3 → M3.1 35 5 = nI b → zft M M3 → z_we s p = e → mm_J g E mX8_read (fun v M' => v = some (.int (zq_read s).1) ∧ zR (zq_read s).2 M') 65 [(0, .ref (E.1 35)), (1, .int (nI t)), (2, .int (nI c))] [] (M3)) (n := s 0 4) ?_ ?_
              · intro M3 hx hF hs3 hz3
                show mm_J g E mX8_read (fun v M' => v = some (.int (zq_read s).1) ∧ zR (zq_read s).2 M') 65 [(0, .ref (E.1 35)), (1, .int (nI t)), (2, .int (nI c))] [] (M3)
                refine jr_aload_n hg 0 rfl rfl dX8_read_65 ?_
                refine gf_X8_109 hg (hI 35 (by decide)) dX8_read_66 ?_
                refine jr_top (hx.2.2.2.1) ?_
                refine jr_aload_n hg 0 rfl rfl dX8_read_69 ?_
                refine gf_X8_104 hg (hI 35 (by decide)) dX8_read_70 ?_
                refine jr_top (hx.1) ?_
                refine jr_icmp_geN (tgt := 111) hg dX8_read_73 (by decide) (by omega) (by omega) (fun h73 => ?_) (fun h => by omega)
                exact jr_lv [0, 1, 2] rfl (ct111 M3 (by rw [← hz3, z_we, z_ru_e (Nat.le_refl _)]; exact hx) hF hs3)
              · intro p hp ih3 M3 hx hF hs3 hz3
                show mm_J g E mX8_read (fun v M' => v = some (.int (zq_read s).1) ∧ zR (zq_read s).2 M') 65 [(0, .ref (E.1 35)), (1, .int (nI t)), (2, .int (nI c))] [] (M3)
                have hbp := Wt.2 p hp
                refine jr_aload_n hg 0 rfl rfl dX8_read_65 ?_
                refine gf_X8_109 hg (hI 35 (by decide)) dX8_read_66 ?_
                refine jr_top (hx.2.2.2.1) ?_
                refine jr_aload_n hg 0 rfl rfl dX8_read_69 ?_
                refine gf_X8_104 hg (hI 35 (by decide)) dX8_read_70 ?_
                refine jr_top (hx.1) ?_
                refine jr_icmp_geN (tgt := 111) hg dX8_read_73 (by decide) (by omega) (by omega) (fun h => by omega) (fun h73 => ?_)
                refine jr_aload_n hg 0 rfl rfl dX8_read_76 ?_
                refine gf_X8_16 hg (hI 35 (by decide)) dX8_read_77 ?_
                refine jr_aload_n hg 0 rfl rfl dX8_read_80 ?_
                refine gf_X8_109 hg (hI 35 (by decide)) dX8_read_81 ?_
                refine jr_top (hx.2.2.2.1) ?_
                refine jr_ialdN hg (n := 160) (by omega) (by decide) (hI 38 (by decide)) (ac_38 _ _) dX8_read_84 ?_
                refine jr_top (hx.2.1 _ hp) ?_
                refine jr_i2l hg (lN _) dX8_read_85 (nI_l (by omega)) ?_
                refine jr_ldc2 hg wm_16_11 dX8_read_86 ?_
                refine jr_topl (show (97 : Int64) = lN 97 by decide) ?_
                refine jr_ldc2 hg wm_16_12 dX8_read_89 ?_
                refine jr_topl (show (122 : Int64) = lN 122 by decide) ?_
                refine jr_cS3v hg lk_X8_100 (by decide) (by decide) (Nat.le_of_ble_eq_true rfl) dX8_read_92 (c_in_l hI (by omega)) ?_
                refine jr_if_eqZ (tgt := 111) hg dX8_read_95 (by decide) (fun h95 => ?_) (fun h95 => ?_)
                · exact jr_lv [0, 1, 2] rfl (ct111 M3 (by rw [← hz3, z_we, z_ru_f (P := z_le s) h95]; exact hx) hF hs3)
                · refine jr_aload_n hg 0 rfl rfl dX8_read_98 ?_
                  refine jr_dup hg dX8_read_99 rfl ?_
                  refine gf_X8_109 hg (hI 35 (by decide)) dX8_read_100 ?_
                  refine jr_top (hx.2.2.2.1) ?_
                  refine jr_iconst hg (nI 1) dX8_read_103 (by decide) ?_
                  refine jr_iaddN hg dX8_read_104 ?_
                  refine pf_X8_109 hg (hI 35 (by decide)) dX8_read_105 ?_
                  refine jr_goto (tgt := 65) hg dX8_read_108 (by decide) ?_
                  exact jr_lv [0, 1, 2] rfl (ih3 _ (hx.pl (p + 1)) hF (hs3.fl (by decide)) ((z_ru_t (P := z_le s) hp h95).symm.trans hz3))
            exact jr_lv [0, 1, 2] rfl (lp65 b (by omega) _ (x1.fr (nI b)) rfl ((hs.tr f1).fl (by decide)) hwe)
          · refine jr_top (show z_hv s b = -1 from if_neg hbn) ?_
            refine jr_if_lt (tgt := 323) hg dX8_read_54 (by decide) (fun h54 => ?_) (fun h => absurd zm1 h)
            rw [z_ps_e (by omega)] at hz
            have e2 : pf = 0 := (congrArg (fun q => q.1) hz).symm
            have e3 : pp = 0 := (congrArg (fun q => q.2.1) hz).symm
            have e4 : rv = prv := congrArg (fun q => q.2.2) hz
            have q8 := zcnt_le (z_nt rv) 8
            exact jr_lv [0, 2] rfl (ct323 M' rv b c x1 (hs.tr f1) hcz (by omega) (by rw [hpr, e2, e3, e4]))
      exact jr_lv [1, 2, 0] rfl (lp43 0 (by omega) M1 (fun _ => 0) 0 0 ⟨(hs1.2 3 (Or.inl (by decide))).trans Rt.1, fun j hj => (congrFun (hs1.1 38 (by decide)).1 j).trans (Rt.2.1 j hj), fun j hj => hrow j hj, g4, g7, g8⟩ hs1 (Nat.zero_le _) (fun j _ => Or.inl rfl) rfl (fun j hj => by simp [z_nt]) (by decide) hpr)
    · intro i hi ih M1 hrow hs1 g4 g7 g8
      show mm_J g E mX8_read (fun v M' => v = some (.int (zq_read s).1) ∧ zR (zq_read s).2 M') 19 [(0, .ref (E.1 35)), (1, .int (nI 0)), (2, .int (nI i))] [] (M1)
      have hi8 : i < 8 := hi
      refine jr_iload_n hg 2 rfl rfl dX8_read_19 ?_
      refine jr_bipush hg (nI 8) dX8_read_20 (by decide) ?_
      refine jr_icmp_geN (tgt := 41) hg dX8_read_22 (by decide) (by omega) (by omega) (fun h => by omega) (fun h22 => ?_)
      refine jr_aload_n hg 0 rfl rfl dX8_read_25 ?_
      refine gf_X8_13 hg (hI 35 (by decide)) dX8_read_26 ?_
      refine jr_iload_n hg 2 rfl rfl dX8_read_29 ?_
      refine jr_iload_n hg 2 rfl rfl dX8_read_30 ?_
      refine jr_cS1v hg lk_X8_88 (by decide) (by decide) (Nat.le_of_ble_eq_true rfl) dX8_read_31 (c_X8_atFirst hI hi8) ?_
      refine jr_iastN hg (n := 8) (by omega) (by decide) (hI 37 (by decide)) (ac_37) dX8_read_34 ?_
      refine jr_iinc hg 2 rfl (nI (_ + 1)) (nI_1 _) dX8_read_35 (by decide) rfl ?_
      refine jr_goto (tgt := 19) hg dX8_read_38 (by decide) ?_
      exact jr_lv [1, 2, 0] rfl (ih (mm_si M1 37 (upd (M1.1 37) i (nI (zfi i)))) (fun j hj => by show upd (M1.1 37) i (nI (zfi i)) j = _; by_cases e : j = i; rw [e, upd_s]; rw [upd_n e]; exact hrow j (by omega)) hs1.nl g4 g7 g8)
  exact jr_lv [2, 1, 0] rfl (lp19 0 (by omega) _ (fun j hj => by omega) (((zft.rf.fl (by decide)).fl (by decide)).fl (by decide)) rfl rfl rfl)

theorem c_X8_read {E : mm_E} (hI : mm_FR E) {M : mm_M} {s : zS} (hR : zR s M) (hW : zW s) : mm_Cal E mX8_read [.ref (E.1 35)] M (fun v M' => v = some (.int (zq_read s).1) ∧ zR (zq_read s).2 M') := by
  obtain ⟨pf, pp, prv, hpr⟩ : ∃ pf pp prv, z_pr s = (pf, pp, prv) := ⟨_, _, _, rfl⟩
  have hp3 : pf ≤ 3 := by
    have q := z_ps_3 (s := s) 9 (fun _ => 0) (z_sp s 0)
    rw [show z_ps s 9 (fun _ => 0) (z_sp s 0) = (pf, pp, prv) from hpr] at q
    exact q
  exact c_readP hI hR hW hpr hp3
