/-- the reference while it reads: the new laws, the place, the fault and its place -/
def zR_g (s : zS) (nl : Nat → Nat) (a f : Nat) (fp : Int32) (M : mm_M) : Prop := M.1 35 3 = nI (s 0 4) ∧ (∀ j, j < s 0 4 → M.1 38 j = nI (s 11 j)) ∧ (∀ j, j < 8 → M.1 37 j = nI (nl j)) ∧ M.1 35 4 = nI a ∧ M.1 35 7 = nI f ∧ M.1 35 8 = fp
theorem zR_g.pl {s : zS} {nl : Nat → Nat} {a f : Nat} {fp : Int32} {M : mm_M} (h : zR_g s nl a f fp M) (b : Nat) : zR_g s nl b f fp (mm_si M 35 (upd (M.1 35) 4 (nI b))) := ⟨h.1, h.2.1, h.2.2.1, rfl, h.2.2.2.2⟩
theorem zR_g.fr {s : zS} {nl : Nat → Nat} {a f : Nat} {fp : Int32} {M : mm_M} (h : zR_g s nl a f fp M) (x : Int32) : zR_g s nl a f fp (mm_si M 35 (upd (M.1 35) 5 x)) := ⟨h.1, h.2.1, h.2.2.1, h.2.2.2.1, h.2.2.2.2⟩
theorem zR_g.le {s : zS} {nl : Nat → Nat} {a f : Nat} {fp : Int32} {M : mm_M} (h : zR_g s nl a f fp M) (x : Int32) : zR_g s nl a f fp (mm_si M 35 (upd (M.1 35) 6 x)) := ⟨h.1, h.2.1, h.2.2.1, h.2.2.2.1, h.2.2.2.2⟩
abbrev zbr (M : mm_M) (x y : Nat) : mm_M := mm_si (mm_si M 35 (upd (M.1 35) 7 (nI x))) 35 (upd ((mm_si M 35 (upd (M.1 35) 7 (nI x))).1 35) 8 (nI y))
theorem zR_g.bl {s : zS} {nl : Nat → Nat} {a f : Nat} {fp : Int32} {M : mm_M} (h : zR_g s nl a f fp M) (x y : Nat) : zR_g s nl a x (nI y) (zbr M x y) := ⟨h.1, h.2.1, h.2.2.1, h.2.2.2.1, rfl, rfl⟩
theorem zR_g.tl {s : zS} {nl : Nat → Nat} {a f : Nat} {fp : Int32} {M : mm_M} (h : zR_g s nl a f fp M) (k v : Nat) : zR_g s (zup nl k v) a f fp (mm_si M 37 (upd (M.1 37) k (nI v))) := ⟨h.1, h.2.1, zrow_up h.2.2.1, h.2.2.2⟩
def zft (M M1 : mm_M) : Prop := mm_same [35, 37] M M1 ∧ ∀ j, j < 4 ∨ 8 < j → M1.1 35 j = M.1 35 j
theorem zft.rf {M : mm_M} : zft M M := ⟨mm_same.rf, fun _ _ => rfl⟩
theorem zft.tr {M M1 M2 : mm_M} (h : zft M M1) (h2 : zft M1 M2) : zft M M2 := ⟨h.1.tr h2.1, fun j hj => (h2.2 j hj).trans (h.2 j hj)⟩
theorem zft.fl {M M1 : mm_M} {k : Nat} {x : Int32} (h : zft M M1) (hk : 4 ≤ k ∧ k ≤ 8) : zft M (mm_si M1 35 (upd (M1.1 35) k x)) := ⟨h.1.si (by decide), fun j hj => by
  show upd (M1.1 35) k x j = _
  rw [upd_n (by omega)]; exact h.2 j hj⟩
theorem zft.nl {M M1 : mm_M} {r : Nat → Int32} (h : zft M M1) : zft M (mm_si M1 37 r) := ⟨h.1.si (by decide), h.2⟩
theorem zft.bl {M M1 : mm_M} (h : zft M M1) (x y : Nat) : zft M (zbr M1 x y) := (h.fl (by decide)).fl (by decide)
def z_hv (s : zS) (d : Nat) : Int32 := if d < s 0 4 then nI (s 11 d) else -1
theorem zwi_n {lo hi x : Nat} (hx : x < 2 ^ 31) : zwi lo hi (nI x) = decide (lo ≤ x ∧ x ≤ hi) := by
  rw [zwi, nI_toInt hx]
  exact decide_eq_decide.mpr (by omega)
theorem zwi_f {x : Nat} (hx : x < 2 ^ 31) : zwi 48 57 (nI x) = z_isf x := zwi_n hx
theorem zwi_l {x : Nat} (hx : x < 2 ^ 31) : zwi 97 122 (nI x) = z_isl x := zwi_n hx
theorem zwi_m {lo hi : Nat} : zwi lo hi (-1) = false := decide_eq_false (by rw [show (-1 : Int32).toInt = -1 by decide]; omega)
theorem c_in_f {E : mm_E} (hI : mm_FR E) {M : mm_M} {x : Nat} (hx : x < 2 ^ 31) : mm_Cal E mX8_in [.long (lN x), .long (lN 48), .long (lN 57)] M (ret1 (.int (nI (z_isf x).toNat)) M) := by
  have h := c_X8_inW hI (M := M) (nI x) (lo := 48) (hi := 57) (nI_l hx).symm (by decide) (by decide)
  rw [zwi_f hx] at h; exact h
theorem c_in_l {E : mm_E} (hI : mm_FR E) {M : mm_M} {x : Nat} (hx : x < 2 ^ 31) : mm_Cal E mX8_in [.long (lN x), .long (lN 97), .long (lN 122)] M (ret1 (.int (nI (z_isl x).toNat)) M) := by
  have h := c_X8_inW hI (M := M) (nI x) (lo := 97) (hi := 122) (nI_l hx).symm (by decide) (by decide)
  rw [zwi_l hx] at h; exact h
theorem c_in_n {E : mm_E} (hI : mm_FR E) {M : mm_M} {x lo hi : Nat} (hx : x < 2 ^ 31) (hl : lo < 2 ^ 31) (hh : hi < 2 ^ 31) : mm_Cal E mX8_in [.long (lN x), .long (lN lo), .long (lN hi)] M (ret1 (.int (nI (decide (lo ≤ x ∧ x ≤ hi)).toNat)) M) := by
  have h := c_X8_inW hI (M := M) (nI x) (lo := lo) (hi := hi) (nI_l hx).symm hl hh
  rw [zwi_n hx] at h; exact h
section TROWS6
variable {g : mm_G} {E : mm_E} {i : mm_I} {own : String} {post : Option Value → mm_M → Prop} {pc : Nat} {lv : List (Nat × Value)} {rest : List Value} {M M1 : mm_M}
theorem jr_cV6v (hg : mm_Ok g E i own) {C : String} {T : u_T} {N c ci idx : Nat} {fs : List Value} {a0 a1 a2 a3 a4 a5 : Value} {j : mm_I} (hlk : mm_LV own idx C j 6) (hc : c ∈ E.2.1) (hcl : vwCl[ci]? = some (C, T, N)) (hcel : mm_cl E (M.1 c) (M.2 c) c = .inr (ci, fs)) (hlv : j.2.2.2.2 < i.2.2.2.2) (hml : j.2.2.1 ≤ 10) (hcat : (rest.map fun v => v.category).sum ≤ 8) (hd : decode i.2.1 pc = .ok (.invokevirtual idx, 3)) {v : Value} (hcal : mm_Cal E j (.ref (E.1 c) :: [a0, a1, a2, a3, a4, a5]) M (ret1 v M1)) (k : mm_J g E i post (pc + 3) lv (v :: rest) M1) : mm_J g E i post pc lv (a5 :: a4 :: a3 :: a2 :: a1 :: a0 :: .ref (E.1 c) :: rest) M := jr_callV (As := [a0, a1, a2, a3, a4, a5]) hg hlk hc hcl hcel rfl hlv hml hcat hd hcal (fun r M' h => by obtain ⟨rfl, rfl⟩ := h; exact k)
end TROWS6

set_option maxRecDepth 100000 in
theorem c_X8_here {E : mm_E} (hI : mm_FR E) {M : mm_M} {s : zS} {nl : Nat → Nat} {a f : Nat} {fp : Int32} (Rg : zR_g s nl a f fp M) (Wt : zW_t s) (ha : a ≤ s 0 4) : mm_Cal E mX8_here [.ref (E.1 35)] M (fun v M' => v = some (.int (z_hv s (z_sp s a))) ∧ zR_g s nl (z_sp s a) f fp M' ∧ zft M M') := by
  have hn := Wt.1
  refine jr_entry RX8 (by decide +kernel) (Nat.le_of_ble_eq_true rfl) (fun g hg => ?_)
  refine jr_lv (lv' := [(0, .ref (E.1 35))]) [0] rfl ?_
  have lp0 : ∀ p : Nat, p ≤ s 0 4 → ∀ M1, zR_g s nl p f fp M1 → zft M M1 → z_sp s p = z_sp s a → mm_J g E mX8_here (fun v M' => v = some (.int (z_hv s (z_sp s a))) ∧ zR_g s nl (z_sp s a) f fp M' ∧ zft M M') 0 [(0, .ref (E.1 35))] [] (M1) := by
    refine jr_up (S := fun p => ∀ M1, zR_g s nl p f fp M1 → zft M M1 → z_sp s p = z_sp s a → mm_J g E mX8_here (fun v M' => v = some (.int (z_hv s (z_sp s a))) ∧ zR_g s nl (z_sp s a) f fp M' ∧ zft M M') 0 [(0, .ref (E.1 35))] [] (M1)) (n := s 0 4) ?_ ?_
    · intro M1 hx hs hz
      show mm_J g E mX8_here (fun v M' => v = some (.int (z_hv s (z_sp s a))) ∧ zR_g s nl (z_sp s a) f fp M' ∧ zft M M') 0 [(0, .ref (E.1 35))] [] (M1)
      refine jr_aload_n hg 0 rfl rfl dX8_here_0 ?_
      refine gf_X8_109 hg (hI 35 (by decide)) dX8_here_1 ?_
      refine jr_top (hx.2.2.2.1) ?_
      refine jr_aload_n hg 0 rfl rfl dX8_here_4 ?_
      refine gf_X8_104 hg (hI 35 (by decide)) dX8_here_5 ?_
      refine jr_top (hx.1) ?_
      refine jr_icmp_geN (tgt := 38) hg dX8_here_8 (by decide) (by omega) (by omega) (fun h8 => ?_) (fun h => by omega)
      refine jr_aload_n hg 0 rfl rfl dX8_here_38 ?_
      refine gf_X8_109 hg (hI 35 (by decide)) dX8_here_39 ?_
      refine jr_top (hx.2.2.2.1) ?_
      refine jr_aload_n hg 0 rfl rfl dX8_here_42 ?_
      refine gf_X8_104 hg (hI 35 (by decide)) dX8_here_43 ?_
      refine jr_top (hx.1) ?_
      refine jr_icmp_geN (tgt := 61) hg dX8_here_46 (by decide) (by omega) (by omega) (fun h46 => ?_) (fun h => by omega)
      refine jr_iconst hg (-1) dX8_here_61 (by decide) ?_
      exact jr_iret hg rfl dX8_here_62 (⟨by rw [← hz, z_sp, z_ru_e (Nat.le_refl _), z_hv, if_neg (Nat.lt_irrefl _)], by rw [← hz, z_sp, z_ru_e (Nat.le_refl _)]; exact hx, hs⟩)
    · intro p hp ih M1 hx hs hz
      show mm_J g E mX8_here (fun v M' => v = some (.int (z_hv s (z_sp s a))) ∧ zR_g s nl (z_sp s a) f fp M' ∧ zft M M') 0 [(0, .ref (E.1 35))] [] (M1)
      have hb := Wt.2 p hp
      refine jr_aload_n hg 0 rfl rfl dX8_here_0 ?_
      refine gf_X8_109 hg (hI 35 (by decide)) dX8_here_1 ?_
      refine jr_top (hx.2.2.2.1) ?_
      refine jr_aload_n hg 0 rfl rfl dX8_here_4 ?_
      refine gf_X8_104 hg (hI 35 (by decide)) dX8_here_5 ?_
      refine jr_top (hx.1) ?_
      refine jr_icmp_geN (tgt := 38) hg dX8_here_8 (by decide) (by omega) (by omega) (fun h => by omega) (fun h8 => ?_)
      refine jr_aload_n hg 0 rfl rfl dX8_here_11 ?_
      refine gf_X8_16 hg (hI 35 (by decide)) dX8_here_12 ?_
      refine jr_aload_n hg 0 rfl rfl dX8_here_15 ?_
      refine gf_X8_109 hg (hI 35 (by decide)) dX8_here_16 ?_
      refine jr_top (hx.2.2.2.1) ?_
      refine jr_ialdN hg (n := 160) (by omega) (by decide) (hI 38 (by decide)) (ac_38 _ _) dX8_here_19 ?_
      refine jr_top (hx.2.1 _ hp) ?_
      refine jr_bipush hg (nI 32) dX8_here_20 (by decide) ?_
      refine jr_icmp_neN (tgt := 38) hg dX8_here_22 (by decide) (by omega) (by omega) (fun h22 => ?_) (fun h22 => ?_)
      · refine jr_aload_n hg 0 rfl rfl dX8_here_38 ?_
        refine gf_X8_109 hg (hI 35 (by decide)) dX8_here_39 ?_
        refine jr_top (hx.2.2.2.1) ?_
        refine jr_aload_n hg 0 rfl rfl dX8_here_42 ?_
        refine gf_X8_104 hg (hI 35 (by decide)) dX8_here_43 ?_
        refine jr_top (hx.1) ?_
        refine jr_icmp_geN (tgt := 61) hg dX8_here_46 (by decide) (by omega) (by omega) (fun h => by omega) (fun h46 => ?_)
        refine jr_aload_n hg 0 rfl rfl dX8_here_49 ?_
        refine gf_X8_16 hg (hI 35 (by decide)) dX8_here_50 ?_
        refine jr_aload_n hg 0 rfl rfl dX8_here_53 ?_
        refine gf_X8_109 hg (hI 35 (by decide)) dX8_here_54 ?_
        refine jr_top (hx.2.2.2.1) ?_
        refine jr_ialdN hg (n := 160) (by omega) (by decide) (hI 38 (by decide)) (ac_38 _ _) dX8_here_57 ?_
        refine jr_top (hx.2.1 _ hp) ?_
        refine jr_goto (tgt := 62) hg dX8_here_58 (by decide) ?_
        exact jr_iret hg rfl dX8_here_62 (⟨by rw [← hz, z_sp, z_ru_f (show z_bl s p = false by simp [z_bl, h22]), z_hv, if_pos hp], by rw [← hz, z_sp, z_ru_f (show z_bl s p = false by simp [z_bl, h22])]; exact hx, hs⟩)
      · refine jr_aload_n hg 0 rfl rfl dX8_here_25 ?_
        refine jr_dup hg dX8_here_26 rfl ?_
        refine gf_X8_109 hg (hI 35 (by decide)) dX8_here_27 ?_
        refine jr_top (hx.2.2.2.1) ?_
        refine jr_iconst hg (nI 1) dX8_here_30 (by decide) ?_
        refine jr_iaddN hg dX8_here_31 ?_
        refine pf_X8_109 hg (hI 35 (by decide)) dX8_here_32 ?_
        refine jr_goto (tgt := 0) hg dX8_here_35 (by decide) ?_
        exact jr_lv [0] rfl (ih _ (hx.pl (p + 1)) (hs.fl (by decide)) ((z_ru_t (P := z_bl s) hp (by simp [z_bl, h22])).symm.trans hz))
  exact jr_lv [0] rfl (lp0 a ha M Rg zft.rf rfl)

set_option maxRecDepth 100000 in
theorem c_want_t {E : mm_E} (hI : mm_FR E) {M : mm_M} {x y : Nat} (h7 : M.1 35 7 = nI 0) : mm_Cal E mX8_want [.ref (E.1 35), .int (nI 1), .int (nI x), .int (nI y)] M (ret1 (.int (nI 1)) M) := by
  refine jr_entry RX8 (by decide +kernel) (Nat.le_of_ble_eq_true rfl) (fun g hg => ?_)
  refine jr_lv (lv' := [(0, .ref (E.1 35)), (1, .int (nI 1)), (2, .int (nI x)), (3, .int (nI y))]) [0, 1, 2, 3] rfl ?_
  refine jr_iload_n hg 1 rfl rfl dX8_want_0 ?_
  refine jr_if_neN (tgt := 21) hg dX8_want_1 (by decide) (by omega) (fun h1 => ?_) (fun h => by omega)
  refine jr_aload_n hg 0 rfl rfl dX8_want_21 ?_
  refine gf_X8_112 hg (hI 35 (by decide)) dX8_want_22 ?_
  refine jr_top (h7) ?_
  refine jr_if_neN (tgt := 32) hg dX8_want_25 (by decide) (by omega) (fun h => by omega) (fun h25 => ?_)
  refine jr_iconst hg (nI 1) dX8_want_28 (by decide) ?_
  refine jr_goto (tgt := 33) hg dX8_want_29 (by decide) ?_
  exact jr_zret hg rfl (by first | exact Or.inl rfl | exact Or.inr rfl | exact z01 _) dX8_want_33 (⟨rfl, rfl⟩)

set_option maxRecDepth 100000 in
theorem c_want_f {E : mm_E} (hI : mm_FR E) {M : mm_M} {x y : Nat} (h7 : M.1 35 7 = nI 0) (hx : 0 < x) (hx2 : x < 2 ^ 31) : mm_Cal E mX8_want [.ref (E.1 35), .int (nI 0), .int (nI x), .int (nI y)] M (ret1 (.int (nI 0)) (zbr M x y)) := by
  refine jr_entry RX8 (by decide +kernel) (Nat.le_of_ble_eq_true rfl) (fun g hg => ?_)
  refine jr_lv (lv' := [(0, .ref (E.1 35)), (1, .int (nI 0)), (2, .int (nI x)), (3, .int (nI y))]) [0, 1, 2, 3] rfl ?_
  refine jr_iload_n hg 1 rfl rfl dX8_want_0 ?_
  refine jr_if_neN (tgt := 21) hg dX8_want_1 (by decide) (by omega) (fun h => by omega) (fun h1 => ?_)
  refine jr_aload_n hg 0 rfl rfl dX8_want_4 ?_
  refine gf_X8_112 hg (hI 35 (by decide)) dX8_want_5 ?_
  refine jr_top (h7) ?_
  refine jr_if_neN (tgt := 21) hg dX8_want_8 (by decide) (by omega) (fun h => by omega) (fun h8 => ?_)
  refine jr_aload_n hg 0 rfl rfl dX8_want_11 ?_
  refine jr_iload_n hg 2 rfl rfl dX8_want_12 ?_
  refine pf_X8_112 hg (hI 35 (by decide)) dX8_want_13 ?_
  refine jr_aload_n hg 0 rfl rfl dX8_want_16 ?_
  refine jr_iload_n hg 3 rfl rfl dX8_want_17 ?_
  refine pf_X8_19 hg (hI 35 (by decide)) dX8_want_18 ?_
  refine jr_aload_n hg 0 rfl rfl dX8_want_21 ?_
  refine gf_X8_112 hg (hI 35 (by decide)) dX8_want_22 ?_
  refine jr_top ((rfl : _ = nI x)) ?_
  refine jr_if_neN (tgt := 32) hg dX8_want_25 (by decide) (by omega) (fun h25 => ?_) (fun h => by omega)
  refine jr_iconst hg (nI 0) dX8_want_32 (by decide) ?_
  exact jr_zret hg rfl (by first | exact Or.inl rfl | exact Or.inr rfl | exact z01 _) dX8_want_33 (⟨rfl, rfl⟩)

set_option maxRecDepth 100000 in
theorem c_isW_len {E : mm_E} (hI : mm_FR E) {M : mm_M} {s : zS} {nl : Nat → Nat} {a f : Nat} {fp : Int32} (Rg : zR_g s nl a f fp M) (Wt : zW_t s) {z b L : Nat} {c : Nat → Nat} (hF : M.1 35 5 = nI b) (hG : M.1 35 6 = nI L) (hb : b + L ≤ s 0 4) (hz : 1 ≤ z) (hz8 : z ≤ 8) (hc : ∀ j, c j < 256) (hL : L ≠ z) : mm_Cal E mX8_isWord [.ref (E.1 35), .int (nI z), .int (nI ((c 0))), .int (nI ((c 1))), .int (nI ((c 2))), .int (nI ((c 3))), .int (nI ((c 4)))] M (ret1 (.int (nI 0)) M) := by
  have hn := Wt.1
  refine jr_entry RX8 (by decide +kernel) (Nat.le_of_ble_eq_true rfl) (fun g hg => ?_)
  refine jr_lv (lv' := [(0, .ref (E.1 35)), (1, .int (nI z)), (2, .int (nI ((c 0)))), (3, .int (nI ((c 1)))), (4, .int (nI ((c 2)))), (5, .int (nI ((c 3)))), (6, .int (nI ((c 4))))]) [0, 1, 2, 3, 4, 5, 6] rfl ?_
  refine jr_aload_n hg 0 rfl rfl dX8_isWord_0 ?_
  refine gf_X8_115 hg (hI 35 (by decide)) dX8_isWord_1 ?_
  refine jr_top (hG) ?_
  refine jr_iload_n hg 1 rfl rfl dX8_isWord_4 ?_
  refine jr_icmp_neN (tgt := 12) hg dX8_isWord_5 (by decide) (by omega) (by omega) (fun h5 => ?_) (fun h => by omega)
  refine jr_iconst hg (nI 0) dX8_isWord_12 (by decide) ?_
  refine jr_istore hg dX8_isWord_13 (by decide) rfl ?_
  refine jr_iconst hg (nI 0) dX8_isWord_15 (by decide) ?_
  refine jr_istore hg dX8_isWord_16 (by decide) rfl ?_
  refine jr_iload hg 0 rfl dX8_isWord_18 ?_
  refine jr_iload_n hg 3 rfl rfl dX8_isWord_20 ?_
  refine jr_icmp_geN (tgt := 106) hg dX8_isWord_21 (by decide) (by omega) (by omega) (fun h => by omega) (fun h21 => ?_)
  refine jr_iload hg 0 rfl dX8_isWord_24 ?_
  refine jr_iconst hg (nI 5) dX8_isWord_26 (by decide) ?_
  refine jr_icmp_geN (tgt := 106) hg dX8_isWord_27 (by decide) (by omega) (by omega) (fun h => by omega) (fun h27 => ?_)
  refine jr_iload hg 1 rfl dX8_isWord_30 ?_
  refine jr_if_eqN (tgt := 106) hg dX8_isWord_32 (by decide) (by omega) (fun h32 => ?_) (fun h => by omega)
  refine jr_iload hg 1 rfl dX8_isWord_106 ?_
  exact jr_zret hg rfl (by first | exact Or.inl rfl | exact Or.inr rfl | exact z01 _) dX8_isWord_108 (⟨rfl, rfl⟩)

set_option maxRecDepth 100000 in
theorem c_isW_eq {E : mm_E} (hI : mm_FR E) {M : mm_M} {s : zS} {nl : Nat → Nat} {a f : Nat} {fp : Int32} (Rg : zR_g s nl a f fp M) (Wt : zW_t s) {z b L : Nat} {c : Nat → Nat} (hF : M.1 35 5 = nI b) (hG : M.1 35 6 = nI L) (hb : b + L ≤ s 0 4) (hz : 1 ≤ z) (hz8 : z ≤ 8) (hc : ∀ j, c j < 256) (hL : L = z) : mm_Cal E mX8_isWord [.ref (E.1 35), .int (nI z), .int (nI ((c 0))), .int (nI ((c 1))), .int (nI ((c 2))), .int (nI ((c 3))), .int (nI ((c 4)))] M (ret1 (.int (nI (z_all (fun j => c j == s 11 (b + j)) (min z 5)).toNat)) M) := by
  have hn := Wt.1
  have hc0 := hc 0
  have hc1 := hc 1
  have hc2 := hc 2
  have hc3 := hc 3
  have hc4 := hc 4
  refine jr_entry RX8 (by decide +kernel) (Nat.le_of_ble_eq_true rfl) (fun g hg => ?_)
  refine jr_lv (lv' := [(0, .ref (E.1 35)), (1, .int (nI z)), (2, .int (nI ((c 0)))), (3, .int (nI ((c 1)))), (4, .int (nI ((c 2)))), (5, .int (nI ((c 3)))), (6, .int (nI ((c 4))))]) [0, 1, 2, 3, 4, 5, 6] rfl ?_
  refine jr_aload_n hg 0 rfl rfl dX8_isWord_0 ?_
  refine gf_X8_115 hg (hI 35 (by decide)) dX8_isWord_1 ?_
  refine jr_top (hG) ?_
  refine jr_iload_n hg 1 rfl rfl dX8_isWord_4 ?_
  refine jr_icmp_neN (tgt := 12) hg dX8_isWord_5 (by decide) (by omega) (by omega) (fun h => by omega) (fun h5 => ?_)
  refine jr_iconst hg (nI 1) dX8_isWord_8 (by decide) ?_
  refine jr_goto (tgt := 13) hg dX8_isWord_9 (by decide) ?_
  refine jr_istore hg dX8_isWord_13 (by decide) rfl ?_
  refine jr_iconst hg (nI 0) dX8_isWord_15 (by decide) ?_
  refine jr_istore hg dX8_isWord_16 (by decide) rfl ?_
  have lp18 : ∀ k : Nat, k ≤ (min z 5) →  mm_J g E mX8_isWord (ret1 (.int (nI (z_all (fun j => c j == s 11 (b + j)) (min z 5)).toNat)) M) 18 [(0, .ref (E.1 35)), (1, .int (nI z)), (2, .int (nI ((c 0)))), (3, .int (nI ((c 1)))), (4, .int (nI ((c 2)))), (5, .int (nI ((c 3)))), (6, .int (nI ((c 4)))), (7, .int (nI ((z_all (fun j => c j == s 11 (b + j)) k).toNat))), (8, .int (nI k))] [] (M) := by
    refine jr_up (S := fun k =>  mm_J g E mX8_isWord (ret1 (.int (nI (z_all (fun j => c j == s 11 (b + j)) (min z 5)).toNat)) M) 18 [(0, .ref (E.1 35)), (1, .int (nI z)), (2, .int (nI ((c 0)))), (3, .int (nI ((c 1)))), (4, .int (nI ((c 2)))), (5, .int (nI ((c 3)))), (6, .int (nI ((c 4)))), (7, .int (nI ((z_all (fun j => c j == s 11 (b + j)) k).toNat))), (8, .int (nI k))] [] (M)) (n := (min z 5)) ?_ ?_
    · show mm_J g E mX8_isWord (ret1 (.int (nI (z_all (fun j => c j == s 11 (b + j)) (min z 5)).toNat)) M) 18 [(0, .ref (E.1 35)), (1, .int (nI z)), (2, .int (nI ((c 0)))), (3, .int (nI ((c 1)))), (4, .int (nI ((c 2)))), (5, .int (nI ((c 3)))), (6, .int (nI ((c 4)))), (7, .int (nI ((z_all (fun j => c j == s 11 (b + j)) ((min z 5))).toNat))), (8, .int (nI ((min z 5))))] [] (M)
      refine jr_iload hg 8 rfl dX8_isWord_18 ?_
      refine jr_iload_n hg 1 rfl rfl dX8_isWord_20 ?_
      refine jr_icmp_geN (tgt := 106) hg dX8_isWord_21 (by decide) (by omega) (by omega) (fun h21 => ?_) (fun h21 => ?_)
      · refine jr_iload hg 7 rfl dX8_isWord_106 ?_
        exact jr_zret hg rfl (by first | exact Or.inl rfl | exact Or.inr rfl | exact z01 _) dX8_isWord_108 (⟨rfl, rfl⟩)
      · refine jr_iload hg 8 rfl dX8_isWord_24 ?_
        refine jr_iconst hg (nI 5) dX8_isWord_26 (by decide) ?_
        refine jr_icmp_geN (tgt := 106) hg dX8_isWord_27 (by decide) (by omega) (by omega) (fun h27 => ?_) (fun h => by omega)
        refine jr_iload hg 7 rfl dX8_isWord_106 ?_
        exact jr_zret hg rfl (by first | exact Or.inl rfl | exact Or.inr rfl | exact z01 _) dX8_isWord_108 (⟨rfl, rfl⟩)
    · intro k hk ih 
      show mm_J g E mX8_isWord (ret1 (.int (nI (z_all (fun j => c j == s 11 (b + j)) (min z 5)).toNat)) M) 18 [(0, .ref (E.1 35)), (1, .int (nI z)), (2, .int (nI ((c 0)))), (3, .int (nI ((c 1)))), (4, .int (nI ((c 2)))), (5, .int (nI ((c 3)))), (6, .int (nI ((c 4)))), (7, .int (nI ((z_all (fun j => c j == s 11 (b + j)) k).toNat))), (8, .int (nI k))] [] (M)
      have hck := hc k
      have hbk := Wt.2 (b + k) (by omega)
      refine jr_iload hg 8 rfl dX8_isWord_18 ?_
      refine jr_iload_n hg 1 rfl rfl dX8_isWord_20 ?_
      refine jr_icmp_geN (tgt := 106) hg dX8_isWord_21 (by decide) (by omega) (by omega) (fun h => by omega) (fun h21 => ?_)
      refine jr_iload hg 8 rfl dX8_isWord_24 ?_
      refine jr_iconst hg (nI 5) dX8_isWord_26 (by decide) ?_
      refine jr_icmp_geN (tgt := 106) hg dX8_isWord_27 (by decide) (by omega) (by omega) (fun h => by omega) (fun h27 => ?_)
      refine jr_iload hg 7 rfl dX8_isWord_30 ?_
      refine jr_if_eqZ (tgt := 106) hg dX8_isWord_32 (by decide) (fun h32 => ?_) (fun h32 => ?_)
      · refine jr_iload hg 7 rfl dX8_isWord_106 ?_
        exact jr_zret hg rfl (by first | exact Or.inl rfl | exact Or.inr rfl | exact z01 _) dX8_isWord_108 (⟨by rw [h32, z_all_mf h32 (by omega)], rfl⟩)
      · refine jr_aload_n hg 0 rfl rfl dX8_isWord_35 ?_
        refine gf_X8_16 hg (hI 35 (by decide)) dX8_isWord_36 ?_
        refine jr_aload_n hg 0 rfl rfl dX8_isWord_39 ?_
        refine gf_X8_118 hg (hI 35 (by decide)) dX8_isWord_40 ?_
        refine jr_top (hF) ?_
        refine jr_iload hg 8 rfl dX8_isWord_43 ?_
        refine jr_iaddN hg dX8_isWord_45 ?_
        refine jr_ialdN hg (n := 160) (by omega) (by decide) (hI 38 (by decide)) (ac_38 _ _) dX8_isWord_46 ?_
        refine jr_top (Rg.2.1 _ (by omega)) ?_
        refine jr_iload hg 8 rfl dX8_isWord_47 ?_
        refine jr_if_neN (tgt := 56) hg dX8_isWord_49 (by decide) (by omega) (fun h49 => ?_) (fun h49 => ?_)
        · refine jr_iload hg 8 rfl dX8_isWord_56 ?_
          refine jr_iconst hg (nI 1) dX8_isWord_58 (by decide) ?_
          refine jr_icmp_neN (tgt := 66) hg dX8_isWord_59 (by decide) (by omega) (by omega) (fun h59 => ?_) (fun h59 => ?_)
          · refine jr_iload hg 8 rfl dX8_isWord_66 ?_
            refine jr_iconst hg (nI 2) dX8_isWord_68 (by decide) ?_
            refine jr_icmp_neN (tgt := 77) hg dX8_isWord_69 (by decide) (by omega) (by omega) (fun h69 => ?_) (fun h69 => ?_)
            · refine jr_iload hg 8 rfl dX8_isWord_77 ?_
              refine jr_iconst hg (nI 3) dX8_isWord_79 (by decide) ?_
              refine jr_icmp_neN (tgt := 88) hg dX8_isWord_80 (by decide) (by omega) (by omega) (fun h80 => ?_) (fun h80 => ?_)
              · refine jr_iload hg 6 rfl dX8_isWord_88 ?_
                refine jr_top (show nI (c 4) = nI (c k) by rw [show k = 4 by omega]) ?_
                skip
                refine jr_icmp_neN (tgt := 97) hg dX8_isWord_90 (by decide) (by omega) (by omega) (fun h90 => ?_) (fun h90 => ?_)
                · refine jr_iconst hg (nI 0) dX8_isWord_97 (by decide) ?_
                  refine jr_istore hg dX8_isWord_98 (by decide) rfl ?_
                  refine jr_iinc hg 8 rfl (nI (_ + 1)) (nI_1 _) dX8_isWord_100 (by decide) rfl ?_
                  refine jr_goto (tgt := 18) hg dX8_isWord_103 (by decide) ?_
                  rw [show z_all (fun j => c j == s 11 (b + j)) (k + 1) = false from by rw [z_all, h32, Bool.true_and]; simp [Ne.symm h90]] at ih
                  exact jr_lv [2, 3, 4, 5, 6, 7, 8, 1, 0] rfl ih
                · refine jr_iconst hg (nI 1) dX8_isWord_93 (by decide) ?_
                  refine jr_goto (tgt := 98) hg dX8_isWord_94 (by decide) ?_
                  refine jr_istore hg dX8_isWord_98 (by decide) rfl ?_
                  refine jr_iinc hg 8 rfl (nI (_ + 1)) (nI_1 _) dX8_isWord_100 (by decide) rfl ?_
                  refine jr_goto (tgt := 18) hg dX8_isWord_103 (by decide) ?_
                  rw [show z_all (fun j => c j == s 11 (b + j)) (k + 1) = true from by rw [z_all, h32, Bool.true_and]; simp [h90]] at ih
                  exact jr_lv [2, 3, 4, 5, 6, 7, 8, 1, 0] rfl ih
              · refine jr_iload hg 5 rfl dX8_isWord_83 ?_
                refine jr_goto (tgt := 90) hg dX8_isWord_85 (by decide) ?_
                refine jr_top (show nI (c 3) = nI (c k) by rw [h80]) ?_
                skip
                refine jr_icmp_neN (tgt := 97) hg dX8_isWord_90 (by decide) (by omega) (by omega) (fun h90 => ?_) (fun h90 => ?_)
                · refine jr_iconst hg (nI 0) dX8_isWord_97 (by decide) ?_
                  refine jr_istore hg dX8_isWord_98 (by decide) rfl ?_
                  refine jr_iinc hg 8 rfl (nI (_ + 1)) (nI_1 _) dX8_isWord_100 (by decide) rfl ?_
                  refine jr_goto (tgt := 18) hg dX8_isWord_103 (by decide) ?_
                  rw [show z_all (fun j => c j == s 11 (b + j)) (k + 1) = false from by rw [z_all, h32, Bool.true_and]; simp [Ne.symm h90]] at ih
                  exact jr_lv [2, 3, 4, 5, 6, 7, 8, 1, 0] rfl ih
                · refine jr_iconst hg (nI 1) dX8_isWord_93 (by decide) ?_
                  refine jr_goto (tgt := 98) hg dX8_isWord_94 (by decide) ?_
                  refine jr_istore hg dX8_isWord_98 (by decide) rfl ?_
                  refine jr_iinc hg 8 rfl (nI (_ + 1)) (nI_1 _) dX8_isWord_100 (by decide) rfl ?_
                  refine jr_goto (tgt := 18) hg dX8_isWord_103 (by decide) ?_
                  rw [show z_all (fun j => c j == s 11 (b + j)) (k + 1) = true from by rw [z_all, h32, Bool.true_and]; simp [h90]] at ih
                  exact jr_lv [2, 3, 4, 5, 6, 7, 8, 1, 0] rfl ih
            · refine jr_iload hg 4 rfl dX8_isWord_72 ?_
              refine jr_goto (tgt := 90) hg dX8_isWord_74 (by decide) ?_
              refine jr_top (show nI (c 2) = nI (c k) by rw [h69]) ?_
              skip
              refine jr_icmp_neN (tgt := 97) hg dX8_isWord_90 (by decide) (by omega) (by omega) (fun h90 => ?_) (fun h90 => ?_)
              · refine jr_iconst hg (nI 0) dX8_isWord_97 (by decide) ?_
                refine jr_istore hg dX8_isWord_98 (by decide) rfl ?_
                refine jr_iinc hg 8 rfl (nI (_ + 1)) (nI_1 _) dX8_isWord_100 (by decide) rfl ?_
                refine jr_goto (tgt := 18) hg dX8_isWord_103 (by decide) ?_
                rw [show z_all (fun j => c j == s 11 (b + j)) (k + 1) = false from by rw [z_all, h32, Bool.true_and]; simp [Ne.symm h90]] at ih
                exact jr_lv [2, 3, 4, 5, 6, 7, 8, 1, 0] rfl ih
              · refine jr_iconst hg (nI 1) dX8_isWord_93 (by decide) ?_
                refine jr_goto (tgt := 98) hg dX8_isWord_94 (by decide) ?_
                refine jr_istore hg dX8_isWord_98 (by decide) rfl ?_
                refine jr_iinc hg 8 rfl (nI (_ + 1)) (nI_1 _) dX8_isWord_100 (by decide) rfl ?_
                refine jr_goto (tgt := 18) hg dX8_isWord_103 (by decide) ?_
                rw [show z_all (fun j => c j == s 11 (b + j)) (k + 1) = true from by rw [z_all, h32, Bool.true_and]; simp [h90]] at ih
                exact jr_lv [2, 3, 4, 5, 6, 7, 8, 1, 0] rfl ih
          · refine jr_iload_n hg 3 rfl rfl dX8_isWord_62 ?_
            refine jr_goto (tgt := 90) hg dX8_isWord_63 (by decide) ?_
            refine jr_top (show nI (c 1) = nI (c k) by rw [h59]) ?_
            skip
            refine jr_icmp_neN (tgt := 97) hg dX8_isWord_90 (by decide) (by omega) (by omega) (fun h90 => ?_) (fun h90 => ?_)
            · refine jr_iconst hg (nI 0) dX8_isWord_97 (by decide) ?_
              refine jr_istore hg dX8_isWord_98 (by decide) rfl ?_
              refine jr_iinc hg 8 rfl (nI (_ + 1)) (nI_1 _) dX8_isWord_100 (by decide) rfl ?_
              refine jr_goto (tgt := 18) hg dX8_isWord_103 (by decide) ?_
              rw [show z_all (fun j => c j == s 11 (b + j)) (k + 1) = false from by rw [z_all, h32, Bool.true_and]; simp [Ne.symm h90]] at ih
              exact jr_lv [2, 3, 4, 5, 6, 7, 8, 1, 0] rfl ih
            · refine jr_iconst hg (nI 1) dX8_isWord_93 (by decide) ?_
              refine jr_goto (tgt := 98) hg dX8_isWord_94 (by decide) ?_
              refine jr_istore hg dX8_isWord_98 (by decide) rfl ?_
              refine jr_iinc hg 8 rfl (nI (_ + 1)) (nI_1 _) dX8_isWord_100 (by decide) rfl ?_
              refine jr_goto (tgt := 18) hg dX8_isWord_103 (by decide) ?_
              rw [show z_all (fun j => c j == s 11 (b + j)) (k + 1) = true from by rw [z_all, h32, Bool.true_and]; simp [h90]] at ih
              exact jr_lv [2, 3, 4, 5, 6, 7, 8, 1, 0] rfl ih
        · refine jr_iload_n hg 2 rfl rfl dX8_isWord_52 ?_
          refine jr_goto (tgt := 90) hg dX8_isWord_53 (by decide) ?_
          refine jr_top (show nI (c 0) = nI (c k) by rw [h49]) ?_
          skip
          refine jr_icmp_neN (tgt := 97) hg dX8_isWord_90 (by decide) (by omega) (by omega) (fun h90 => ?_) (fun h90 => ?_)
          · refine jr_iconst hg (nI 0) dX8_isWord_97 (by decide) ?_
            refine jr_istore hg dX8_isWord_98 (by decide) rfl ?_
            refine jr_iinc hg 8 rfl (nI (_ + 1)) (nI_1 _) dX8_isWord_100 (by decide) rfl ?_
            refine jr_goto (tgt := 18) hg dX8_isWord_103 (by decide) ?_
            rw [show z_all (fun j => c j == s 11 (b + j)) (k + 1) = false from by rw [z_all, h32, Bool.true_and]; simp [Ne.symm h90]] at ih
            exact jr_lv [2, 3, 4, 5, 6, 7, 8, 1, 0] rfl ih
          · refine jr_iconst hg (nI 1) dX8_isWord_93 (by decide) ?_
            refine jr_goto (tgt := 98) hg dX8_isWord_94 (by decide) ?_
            refine jr_istore hg dX8_isWord_98 (by decide) rfl ?_
            refine jr_iinc hg 8 rfl (nI (_ + 1)) (nI_1 _) dX8_isWord_100 (by decide) rfl ?_
            refine jr_goto (tgt := 18) hg dX8_isWord_103 (by decide) ?_
            rw [show z_all (fun j => c j == s 11 (b + j)) (k + 1) = true from by rw [z_all, h32, Bool.true_and]; simp [h90]] at ih
            exact jr_lv [2, 3, 4, 5, 6, 7, 8, 1, 0] rfl ih
  exact jr_lv [2, 3, 4, 5, 6, 7, 8, 1, 0] rfl (lp18 0 (by omega))

theorem c_isW {E : mm_E} (hI : mm_FR E) {M : mm_M} {s : zS} {nl : Nat → Nat} {a f : Nat} {fp : Int32} (Rg : zR_g s nl a f fp M) (Wt : zW_t s) {z b L : Nat} {c : Nat → Nat} (hF : M.1 35 5 = nI b) (hG : M.1 35 6 = nI L) (hb : b + L ≤ s 0 4) (hz : 1 ≤ z) (hz8 : z ≤ 8) (hc : ∀ j, c j < 256) : mm_Cal E mX8_isWord [.ref (E.1 35), .int (nI z), .int (nI (c 0)), .int (nI (c 1)), .int (nI (c 2)), .int (nI (c 3)), .int (nI (c 4))] M (ret1 (.int (nI (z == L && z_all (fun j => c j == s 11 (b + j)) (min z 5)).toNat)) M) := by
  by_cases e : L = z
  · rw [show (z == L) = true by simp [e], Bool.true_and]
    exact c_isW_eq hI Rg Wt hF hG hb hz hz8 hc e
  · rw [show (z == L) = false by simp [Ne.symm e], Bool.false_and]
    exact c_isW_len hI Rg Wt hF hG hb hz hz8 hc e
def z_wd5 (w : Nat) : List Nat := [[115, 104, 97, 114, 112], [102, 97, 114, 0, 0], [108, 101, 97, 110, 0], [116, 105, 114, 101, 0], [108, 105, 110, 101, 0], [109, 111, 115, 116, 0], [112, 97, 116, 105, 101], [115, 117, 114, 101, 0]].getD w []
def z_w5 (w j : Nat) : Nat := (z_wd5 w).getD j 0
theorem z_w5_le : ∀ w, w < 8 → ∀ j, j < 5 → z_w5 w j < 256 := by decide +kernel
theorem z_w5_e : ∀ w, w < 8 → ∀ j, j < min (z_wl w) 5 → z_w5 w j = z_wc w j := by decide +kernel
theorem z_w5_lt {w : Nat} (hw : w < 8) (j : Nat) : z_w5 w j < 256 := by
  rcases Nat.lt_or_ge j 5 with q | q
  · exact z_w5_le w hw j q
  · have : (z_wd5 w).length ≤ 5 := by
      have : ∀ w, w < 8 → (z_wd5 w).length ≤ 5 := by decide +kernel
      exact this w hw
    rw [z_w5, List.getD_eq_getElem?_getD, List.getElem?_eq_none (by omega)]
    decide
theorem z_wm_5 {s : zS} {w b e : Nat} (hw : w < 8) (h5 : z_wl w ≤ 5) : (z_wl w == e - b && z_all (fun j => z_w5 w j == s 11 (b + j)) (min (z_wl w) 5)) = z_wm s b e w := by
  rw [z_wm, Nat.min_eq_left h5]
  congr 1
  exact z_all_c _ (fun j hj => by rw [z_w5_e w hw j (by omega)])

theorem c_isW_0 {E : mm_E} (hI : mm_FR E) {M : mm_M} {s : zS} {nl : Nat → Nat} {a f : Nat} {fp : Int32} (Rg : zR_g s nl a f fp M) (Wt : zW_t s) {b e : Nat} (hF : M.1 35 5 = nI b) (hG : M.1 35 6 = nI (e - b)) (hbe : b ≤ e) (he : e ≤ s 0 4) : mm_Cal E mX8_isWord [.ref (E.1 35), .int (nI 5), .int (nI 115), .int (nI 104), .int (nI 97), .int (nI 114), .int (nI 112)] M (ret1 (.int (nI (z_wm s b e 0).toNat)) M) := by
  have h := c_isW hI Rg Wt (z := 5) (c := z_w5 0) hF hG (by omega) (by decide) (by decide) (z_w5_lt (by decide))
  rw [← z_wm_5 (s := s) (w := 0) (by decide) (by decide)]
  exact h

theorem c_isW_1 {E : mm_E} (hI : mm_FR E) {M : mm_M} {s : zS} {nl : Nat → Nat} {a f : Nat} {fp : Int32} (Rg : zR_g s nl a f fp M) (Wt : zW_t s) {b e : Nat} (hF : M.1 35 5 = nI b) (hG : M.1 35 6 = nI (e - b)) (hbe : b ≤ e) (he : e ≤ s 0 4) : mm_Cal E mX8_isWord [.ref (E.1 35), .int (nI 3), .int (nI 102), .int (nI 97), .int (nI 114), .int (nI 0), .int (nI 0)] M (ret1 (.int (nI (z_wm s b e 1).toNat)) M) := by
  have h := c_isW hI Rg Wt (z := 3) (c := z_w5 1) hF hG (by omega) (by decide) (by decide) (z_w5_lt (by decide))
  rw [← z_wm_5 (s := s) (w := 1) (by decide) (by decide)]
  exact h

theorem c_isW_2 {E : mm_E} (hI : mm_FR E) {M : mm_M} {s : zS} {nl : Nat → Nat} {a f : Nat} {fp : Int32} (Rg : zR_g s nl a f fp M) (Wt : zW_t s) {b e : Nat} (hF : M.1 35 5 = nI b) (hG : M.1 35 6 = nI (e - b)) (hbe : b ≤ e) (he : e ≤ s 0 4) : mm_Cal E mX8_isWord [.ref (E.1 35), .int (nI 4), .int (nI 108), .int (nI 101), .int (nI 97), .int (nI 110), .int (nI 0)] M (ret1 (.int (nI (z_wm s b e 2).toNat)) M) := by
  have h := c_isW hI Rg Wt (z := 4) (c := z_w5 2) hF hG (by omega) (by decide) (by decide) (z_w5_lt (by decide))
  rw [← z_wm_5 (s := s) (w := 2) (by decide) (by decide)]
  exact h

theorem c_isW_3 {E : mm_E} (hI : mm_FR E) {M : mm_M} {s : zS} {nl : Nat → Nat} {a f : Nat} {fp : Int32} (Rg : zR_g s nl a f fp M) (Wt : zW_t s) {b e : Nat} (hF : M.1 35 5 = nI b) (hG : M.1 35 6 = nI (e - b)) (hbe : b ≤ e) (he : e ≤ s 0 4) : mm_Cal E mX8_isWord [.ref (E.1 35), .int (nI 4), .int (nI 116), .int (nI 105), .int (nI 114), .int (nI 101), .int (nI 0)] M (ret1 (.int (nI (z_wm s b e 3).toNat)) M) := by
  have h := c_isW hI Rg Wt (z := 4) (c := z_w5 3) hF hG (by omega) (by decide) (by decide) (z_w5_lt (by decide))
  rw [← z_wm_5 (s := s) (w := 3) (by decide) (by decide)]
  exact h

theorem c_isW_4 {E : mm_E} (hI : mm_FR E) {M : mm_M} {s : zS} {nl : Nat → Nat} {a f : Nat} {fp : Int32} (Rg : zR_g s nl a f fp M) (Wt : zW_t s) {b e : Nat} (hF : M.1 35 5 = nI b) (hG : M.1 35 6 = nI (e - b)) (hbe : b ≤ e) (he : e ≤ s 0 4) : mm_Cal E mX8_isWord [.ref (E.1 35), .int (nI 4), .int (nI 108), .int (nI 105), .int (nI 110), .int (nI 101), .int (nI 0)] M (ret1 (.int (nI (z_wm s b e 4).toNat)) M) := by
  have h := c_isW hI Rg Wt (z := 4) (c := z_w5 4) hF hG (by omega) (by decide) (by decide) (z_w5_lt (by decide))
  rw [← z_wm_5 (s := s) (w := 4) (by decide) (by decide)]
  exact h

theorem c_isW_5 {E : mm_E} (hI : mm_FR E) {M : mm_M} {s : zS} {nl : Nat → Nat} {a f : Nat} {fp : Int32} (Rg : zR_g s nl a f fp M) (Wt : zW_t s) {b e : Nat} (hF : M.1 35 5 = nI b) (hG : M.1 35 6 = nI (e - b)) (hbe : b ≤ e) (he : e ≤ s 0 4) : mm_Cal E mX8_isWord [.ref (E.1 35), .int (nI 4), .int (nI 109), .int (nI 111), .int (nI 115), .int (nI 116), .int (nI 0)] M (ret1 (.int (nI (z_wm s b e 5).toNat)) M) := by
  have h := c_isW hI Rg Wt (z := 4) (c := z_w5 5) hF hG (by omega) (by decide) (by decide) (z_w5_lt (by decide))
  rw [← z_wm_5 (s := s) (w := 5) (by decide) (by decide)]
  exact h

theorem c_isW_6 {E : mm_E} (hI : mm_FR E) {M : mm_M} {s : zS} {nl : Nat → Nat} {a f : Nat} {fp : Int32} (Rg : zR_g s nl a f fp M) (Wt : zW_t s) {b e : Nat} (hF : M.1 35 5 = nI b) (hG : M.1 35 6 = nI (e - b)) (hbe : b ≤ e) (he : e ≤ s 0 4) : mm_Cal E mX8_isWord [.ref (E.1 35), .int (nI 8), .int (nI 112), .int (nI 97), .int (nI 116), .int (nI 105), .int (nI 101)] M (ret1 (.int (nI ((8 == e - b && z_all (fun j => z_w5 6 j == s 11 (b + j)) 5)).toNat)) M) := by
  have h := c_isW hI Rg Wt (z := 8) (c := z_w5 6) hF hG (by omega) (by decide) (by decide) (z_w5_lt (by decide))
  exact h

theorem c_isW_7 {E : mm_E} (hI : mm_FR E) {M : mm_M} {s : zS} {nl : Nat → Nat} {a f : Nat} {fp : Int32} (Rg : zR_g s nl a f fp M) (Wt : zW_t s) {b e : Nat} (hF : M.1 35 5 = nI b) (hG : M.1 35 6 = nI (e - b)) (hbe : b ≤ e) (he : e ≤ s 0 4) : mm_Cal E mX8_isWord [.ref (E.1 35), .int (nI 4), .int (nI 115), .int (nI 117), .int (nI 114), .int (nI 101), .int (nI 0)] M (ret1 (.int (nI (z_wm s b e 7).toNat)) M) := by
  have h := c_isW hI Rg Wt (z := 4) (c := z_w5 7) hF hG (by omega) (by decide) (by decide) (z_w5_lt (by decide))
  rw [← z_wm_5 (s := s) (w := 7) (by decide) (by decide)]
  exact h

theorem z_pat_f {s : zS} {b e : Nat} (h : (8 == e - b && z_all (fun j => z_w5 6 j == s 11 (b + j)) 5) = false) : z_wm s b e 6 = false := by
  rw [z_wm, show z_wl 6 = 8 from rfl]
  rw [z_all_c (Q := fun j => z_wc 6 j == s 11 (b + j)) 5 (fun j hj => by rw [z_w5_e 6 (by decide) j hj])] at h
  simp only [z_all] at h ⊢
  cases q : (8 == e - b) with
  | false => rfl
  | true => rw [q] at h; simp only [Bool.true_and] at h ⊢; rw [h]; rfl
theorem z_pat_n {s : zS} {b e : Nat} (h : (8 == e - b && z_all (fun j => z_w5 6 j == s 11 (b + j)) 5) = true) : e - b = 8 ∧ ∀ x y z : Nat, s 11 (b + 5) = x → s 11 (b + 6) = y → s 11 (b + 7) = z → z_wm s b e 6 = ((110 == x && 99 == y) && 101 == z) := by
  rw [z_all_c (Q := fun j => z_wc 6 j == s 11 (b + j)) 5 (fun j hj => by rw [z_w5_e 6 (by decide) j hj])] at h
  simp only [Bool.and_eq_true, beq_iff_eq] at h
  refine ⟨h.1.symm, fun x y z hx hy hz => ?_⟩
  have e8 : z_all (fun j => z_wc 6 j == s 11 (b + j)) 8 = (((z_all (fun j => z_wc 6 j == s 11 (b + j)) 5 && (z_wc 6 5 == s 11 (b + 5))) && (z_wc 6 6 == s 11 (b + 6))) && (z_wc 6 7 == s 11 (b + 7))) := rfl
  rw [z_wm, show z_wl 6 = 8 from rfl, e8, h.2, show (8 == e - b) = true by simp [h.1], hx, hy, hz, show z_wc 6 5 = 110 by decide +kernel, show z_wc 6 6 = 99 by decide +kernel, show z_wc 6 7 = 101 by decide +kernel]
  rfl

set_option maxRecDepth 100000 in
theorem c_X8_kindOf {E : mm_E} (hI : mm_FR E) {M : mm_M} {s : zS} {nl : Nat → Nat} {a f : Nat} {fp : Int32} (Rg : zR_g s nl a f fp M) (Wt : zW_t s) {b e : Nat} (hF : M.1 35 5 = nI b) (hG : M.1 35 6 = nI (e - b)) (hwe : z_we s b = e) (hbe : b ≤ e) (he : e ≤ s 0 4) : mm_Cal E mX8_kindOf [.ref (E.1 35)] M (ret1 (.int (zmv (z_w s b))) M) := by
  have hn := Wt.1
  refine jr_entry RX8 (by decide +kernel) (Nat.le_of_ble_eq_true rfl) (fun g hg => ?_)
  refine jr_lv (lv' := [(0, .ref (E.1 35))]) [0] rfl ?_
  refine jr_aload_n hg 0 rfl rfl dX8_kindOf_0 ?_
  refine jr_iconst hg (nI 5) dX8_kindOf_1 (by decide) ?_
  refine jr_bipush hg (nI 115) dX8_kindOf_2 (by decide) ?_
  refine jr_bipush hg (nI 104) dX8_kindOf_4 (by decide) ?_
  refine jr_bipush hg (nI 97) dX8_kindOf_6 (by decide) ?_
  refine jr_bipush hg (nI 114) dX8_kindOf_8 (by decide) ?_
  refine jr_bipush hg (nI 112) dX8_kindOf_10 (by decide) ?_
  refine jr_cV6v hg lk_X8_121 (hI 35 (by decide)) rfl rfl (by decide) (by decide) (Nat.le_of_ble_eq_true rfl) dX8_kindOf_12 (c_isW_0 hI Rg Wt hF hG hbe he) ?_
  refine jr_if_eqZ (tgt := 20) hg dX8_kindOf_15 (by decide) (fun h15 => ?_) (fun h15 => ?_)
  · refine jr_aload_n hg 0 rfl rfl dX8_kindOf_20 ?_
    refine jr_iconst hg (nI 3) dX8_kindOf_21 (by decide) ?_
    refine jr_bipush hg (nI 102) dX8_kindOf_22 (by decide) ?_
    refine jr_bipush hg (nI 97) dX8_kindOf_24 (by decide) ?_
    refine jr_bipush hg (nI 114) dX8_kindOf_26 (by decide) ?_
    refine jr_iconst hg (nI 0) dX8_kindOf_28 (by decide) ?_
    refine jr_iconst hg (nI 0) dX8_kindOf_29 (by decide) ?_
    refine jr_cV6v hg lk_X8_121 (hI 35 (by decide)) rfl rfl (by decide) (by decide) (Nat.le_of_ble_eq_true rfl) dX8_kindOf_30 (c_isW_1 hI Rg Wt hF hG hbe he) ?_
    refine jr_if_eqZ (tgt := 38) hg dX8_kindOf_33 (by decide) (fun h33 => ?_) (fun h33 => ?_)
    · refine jr_aload_n hg 0 rfl rfl dX8_kindOf_38 ?_
      refine jr_iconst hg (nI 4) dX8_kindOf_39 (by decide) ?_
      refine jr_bipush hg (nI 108) dX8_kindOf_40 (by decide) ?_
      refine jr_bipush hg (nI 101) dX8_kindOf_42 (by decide) ?_
      refine jr_bipush hg (nI 97) dX8_kindOf_44 (by decide) ?_
      refine jr_bipush hg (nI 110) dX8_kindOf_46 (by decide) ?_
      refine jr_iconst hg (nI 0) dX8_kindOf_48 (by decide) ?_
      refine jr_cV6v hg lk_X8_121 (hI 35 (by decide)) rfl rfl (by decide) (by decide) (Nat.le_of_ble_eq_true rfl) dX8_kindOf_49 (c_isW_2 hI Rg Wt hF hG hbe he) ?_
      refine jr_if_eqZ (tgt := 57) hg dX8_kindOf_52 (by decide) (fun h52 => ?_) (fun h52 => ?_)
      · refine jr_aload_n hg 0 rfl rfl dX8_kindOf_57 ?_
        refine jr_iconst hg (nI 4) dX8_kindOf_58 (by decide) ?_
        refine jr_bipush hg (nI 116) dX8_kindOf_59 (by decide) ?_
        refine jr_bipush hg (nI 105) dX8_kindOf_61 (by decide) ?_
        refine jr_bipush hg (nI 114) dX8_kindOf_63 (by decide) ?_
        refine jr_bipush hg (nI 101) dX8_kindOf_65 (by decide) ?_
        refine jr_iconst hg (nI 0) dX8_kindOf_67 (by decide) ?_
        refine jr_cV6v hg lk_X8_121 (hI 35 (by decide)) rfl rfl (by decide) (by decide) (Nat.le_of_ble_eq_true rfl) dX8_kindOf_68 (c_isW_3 hI Rg Wt hF hG hbe he) ?_
        refine jr_if_eqZ (tgt := 76) hg dX8_kindOf_71 (by decide) (fun h71 => ?_) (fun h71 => ?_)
        · refine jr_aload_n hg 0 rfl rfl dX8_kindOf_76 ?_
          refine jr_iconst hg (nI 4) dX8_kindOf_77 (by decide) ?_
          refine jr_bipush hg (nI 108) dX8_kindOf_78 (by decide) ?_
          refine jr_bipush hg (nI 105) dX8_kindOf_80 (by decide) ?_
          refine jr_bipush hg (nI 110) dX8_kindOf_82 (by decide) ?_
          refine jr_bipush hg (nI 101) dX8_kindOf_84 (by decide) ?_
          refine jr_iconst hg (nI 0) dX8_kindOf_86 (by decide) ?_
          refine jr_cV6v hg lk_X8_121 (hI 35 (by decide)) rfl rfl (by decide) (by decide) (Nat.le_of_ble_eq_true rfl) dX8_kindOf_87 (c_isW_4 hI Rg Wt hF hG hbe he) ?_
          refine jr_if_eqZ (tgt := 95) hg dX8_kindOf_90 (by decide) (fun h90 => ?_) (fun h90 => ?_)
          · refine jr_aload_n hg 0 rfl rfl dX8_kindOf_95 ?_
            refine jr_iconst hg (nI 4) dX8_kindOf_96 (by decide) ?_
            refine jr_bipush hg (nI 109) dX8_kindOf_97 (by decide) ?_
            refine jr_bipush hg (nI 111) dX8_kindOf_99 (by decide) ?_
            refine jr_bipush hg (nI 115) dX8_kindOf_101 (by decide) ?_
            refine jr_bipush hg (nI 116) dX8_kindOf_103 (by decide) ?_
            refine jr_iconst hg (nI 0) dX8_kindOf_105 (by decide) ?_
            refine jr_cV6v hg lk_X8_121 (hI 35 (by decide)) rfl rfl (by decide) (by decide) (Nat.le_of_ble_eq_true rfl) dX8_kindOf_106 (c_isW_5 hI Rg Wt hF hG hbe he) ?_
            refine jr_if_eqZ (tgt := 114) hg dX8_kindOf_109 (by decide) (fun h109 => ?_) (fun h109 => ?_)
            · refine jr_aload_n hg 0 rfl rfl dX8_kindOf_114 ?_
              refine jr_bipush hg (nI 8) dX8_kindOf_115 (by decide) ?_
              refine jr_bipush hg (nI 112) dX8_kindOf_117 (by decide) ?_
              refine jr_bipush hg (nI 97) dX8_kindOf_119 (by decide) ?_
              refine jr_bipush hg (nI 116) dX8_kindOf_121 (by decide) ?_
              refine jr_bipush hg (nI 105) dX8_kindOf_123 (by decide) ?_
              refine jr_bipush hg (nI 101) dX8_kindOf_125 (by decide) ?_
              refine jr_cV6v hg lk_X8_121 (hI 35 (by decide)) rfl rfl (by decide) (by decide) (Nat.le_of_ble_eq_true rfl) dX8_kindOf_127 (c_isW_6 hI Rg Wt hF hG hbe he) ?_
              refine jr_if_eqZ (tgt := 186) hg dX8_kindOf_130 (by decide) (fun h130 => ?_) (fun h130 => ?_)
              · have h6f : z_wm s b e 6 = false := z_pat_f h130
                refine jr_aload_n hg 0 rfl rfl dX8_kindOf_186 ?_
                refine jr_iconst hg (nI 4) dX8_kindOf_187 (by decide) ?_
                refine jr_bipush hg (nI 115) dX8_kindOf_188 (by decide) ?_
                refine jr_bipush hg (nI 117) dX8_kindOf_190 (by decide) ?_
                refine jr_bipush hg (nI 114) dX8_kindOf_192 (by decide) ?_
                refine jr_bipush hg (nI 101) dX8_kindOf_194 (by decide) ?_
                refine jr_iconst hg (nI 0) dX8_kindOf_196 (by decide) ?_
                refine jr_cV6v hg lk_X8_121 (hI 35 (by decide)) rfl rfl (by decide) (by decide) (Nat.le_of_ble_eq_true rfl) dX8_kindOf_197 (c_isW_7 hI Rg Wt hF hG hbe he) ?_
                refine jr_if_eqZ (tgt := 208) hg dX8_kindOf_200 (by decide) (fun h200 => ?_) (fun h200 => ?_)
                · refine jr_iconst hg (-1) dX8_kindOf_208 (by decide) ?_
                  exact jr_iret hg rfl dX8_kindOf_209 (⟨by rw [show z_w s b = 0 from zfind_of0 (fun j hj => by rw [hwe]; rcases (show j = 0 ∨ j = 1 ∨ j = 2 ∨ j = 3 ∨ j = 4 ∨ j = 5 ∨ j = 6 ∨ j = 7 by omega) with rfl | rfl | rfl | rfl | rfl | rfl | rfl | rfl <;> first | exact h15 | exact h33 | exact h52 | exact h71 | exact h90 | exact h109 | exact h6f | exact h200)]; rfl, rfl⟩)
                · refine jr_bipush hg (nI 7) dX8_kindOf_203 (by decide) ?_
                  refine jr_goto (tgt := 209) hg dX8_kindOf_205 (by decide) ?_
                  exact jr_iret hg rfl dX8_kindOf_209 (⟨by rw [show z_w s b = 8 from zfind_of (j := 7) (by decide) (by rw [hwe]; exact h200) (fun j hj => by rw [hwe]; rcases (show j = 0 ∨ j = 1 ∨ j = 2 ∨ j = 3 ∨ j = 4 ∨ j = 5 ∨ j = 6 by omega) with rfl | rfl | rfl | rfl | rfl | rfl | rfl <;> first | exact h15 | exact h33 | exact h52 | exact h71 | exact h90 | exact h109 | exact h6f)]; rfl, rfl⟩)
              · obtain ⟨hL8, hpn⟩ := z_pat_n h130
                have hb5 := Wt.2 (b + 5) (by omega)
                have hb6 := Wt.2 (b + 6) (by omega)
                have hb7 := Wt.2 (b + 7) (by omega)
                refine jr_aload_n hg 0 rfl rfl dX8_kindOf_133 ?_
                refine gf_X8_16 hg (hI 35 (by decide)) dX8_kindOf_134 ?_
                refine jr_aload_n hg 0 rfl rfl dX8_kindOf_137 ?_
                refine gf_X8_118 hg (hI 35 (by decide)) dX8_kindOf_138 ?_
                refine jr_top (hF) ?_
                refine jr_iconst hg (nI 5) dX8_kindOf_141 (by decide) ?_
                refine jr_iaddN hg dX8_kindOf_142 ?_
                refine jr_ialdN hg (n := 160) (by omega) (by decide) (hI 38 (by decide)) (ac_38 _ _) dX8_kindOf_143 ?_
                refine jr_top (Rg.2.1 _ (by omega)) ?_
                refine jr_bipush hg (nI 110) dX8_kindOf_144 (by decide) ?_
                refine jr_icmp_neN (tgt := 186) hg dX8_kindOf_146 (by decide) (by omega) (by omega) (fun h146 => ?_) (fun h146 => ?_)
                · have h6f : z_wm s b e 6 = false := by rw [hpn _ _ _ rfl rfl rfl]; simp [Ne.symm h146]
                  refine jr_aload_n hg 0 rfl rfl dX8_kindOf_186 ?_
                  refine jr_iconst hg (nI 4) dX8_kindOf_187 (by decide) ?_
                  refine jr_bipush hg (nI 115) dX8_kindOf_188 (by decide) ?_
                  refine jr_bipush hg (nI 117) dX8_kindOf_190 (by decide) ?_
                  refine jr_bipush hg (nI 114) dX8_kindOf_192 (by decide) ?_
                  refine jr_bipush hg (nI 101) dX8_kindOf_194 (by decide) ?_
                  refine jr_iconst hg (nI 0) dX8_kindOf_196 (by decide) ?_
                  refine jr_cV6v hg lk_X8_121 (hI 35 (by decide)) rfl rfl (by decide) (by decide) (Nat.le_of_ble_eq_true rfl) dX8_kindOf_197 (c_isW_7 hI Rg Wt hF hG hbe he) ?_
                  refine jr_if_eqZ (tgt := 208) hg dX8_kindOf_200 (by decide) (fun h200 => ?_) (fun h200 => ?_)
                  · refine jr_iconst hg (-1) dX8_kindOf_208 (by decide) ?_
                    exact jr_iret hg rfl dX8_kindOf_209 (⟨by rw [show z_w s b = 0 from zfind_of0 (fun j hj => by rw [hwe]; rcases (show j = 0 ∨ j = 1 ∨ j = 2 ∨ j = 3 ∨ j = 4 ∨ j = 5 ∨ j = 6 ∨ j = 7 by omega) with rfl | rfl | rfl | rfl | rfl | rfl | rfl | rfl <;> first | exact h15 | exact h33 | exact h52 | exact h71 | exact h90 | exact h109 | exact h6f | exact h200)]; rfl, rfl⟩)
                  · refine jr_bipush hg (nI 7) dX8_kindOf_203 (by decide) ?_
                    refine jr_goto (tgt := 209) hg dX8_kindOf_205 (by decide) ?_
                    exact jr_iret hg rfl dX8_kindOf_209 (⟨by rw [show z_w s b = 8 from zfind_of (j := 7) (by decide) (by rw [hwe]; exact h200) (fun j hj => by rw [hwe]; rcases (show j = 0 ∨ j = 1 ∨ j = 2 ∨ j = 3 ∨ j = 4 ∨ j = 5 ∨ j = 6 by omega) with rfl | rfl | rfl | rfl | rfl | rfl | rfl <;> first | exact h15 | exact h33 | exact h52 | exact h71 | exact h90 | exact h109 | exact h6f)]; rfl, rfl⟩)
                · refine jr_aload_n hg 0 rfl rfl dX8_kindOf_149 ?_
                  refine gf_X8_16 hg (hI 35 (by decide)) dX8_kindOf_150 ?_
                  refine jr_aload_n hg 0 rfl rfl dX8_kindOf_153 ?_
                  refine gf_X8_118 hg (hI 35 (by decide)) dX8_kindOf_154 ?_
                  refine jr_top (hF) ?_
                  refine jr_bipush hg (nI 6) dX8_kindOf_157 (by decide) ?_
                  refine jr_iaddN hg dX8_kindOf_159 ?_
                  refine jr_ialdN hg (n := 160) (by omega) (by decide) (hI 38 (by decide)) (ac_38 _ _) dX8_kindOf_160 ?_
                  refine jr_top (Rg.2.1 _ (by omega)) ?_
                  refine jr_bipush hg (nI 99) dX8_kindOf_161 (by decide) ?_
                  refine jr_icmp_neN (tgt := 186) hg dX8_kindOf_163 (by decide) (by omega) (by omega) (fun h163 => ?_) (fun h163 => ?_)
                  · have h6f : z_wm s b e 6 = false := by rw [hpn _ _ _ rfl rfl rfl]; simp [Ne.symm h163]
                    refine jr_aload_n hg 0 rfl rfl dX8_kindOf_186 ?_
                    refine jr_iconst hg (nI 4) dX8_kindOf_187 (by decide) ?_
                    refine jr_bipush hg (nI 115) dX8_kindOf_188 (by decide) ?_
                    refine jr_bipush hg (nI 117) dX8_kindOf_190 (by decide) ?_
                    refine jr_bipush hg (nI 114) dX8_kindOf_192 (by decide) ?_
                    refine jr_bipush hg (nI 101) dX8_kindOf_194 (by decide) ?_
                    refine jr_iconst hg (nI 0) dX8_kindOf_196 (by decide) ?_
                    refine jr_cV6v hg lk_X8_121 (hI 35 (by decide)) rfl rfl (by decide) (by decide) (Nat.le_of_ble_eq_true rfl) dX8_kindOf_197 (c_isW_7 hI Rg Wt hF hG hbe he) ?_
                    refine jr_if_eqZ (tgt := 208) hg dX8_kindOf_200 (by decide) (fun h200 => ?_) (fun h200 => ?_)
                    · refine jr_iconst hg (-1) dX8_kindOf_208 (by decide) ?_
                      exact jr_iret hg rfl dX8_kindOf_209 (⟨by rw [show z_w s b = 0 from zfind_of0 (fun j hj => by rw [hwe]; rcases (show j = 0 ∨ j = 1 ∨ j = 2 ∨ j = 3 ∨ j = 4 ∨ j = 5 ∨ j = 6 ∨ j = 7 by omega) with rfl | rfl | rfl | rfl | rfl | rfl | rfl | rfl <;> first | exact h15 | exact h33 | exact h52 | exact h71 | exact h90 | exact h109 | exact h6f | exact h200)]; rfl, rfl⟩)
                    · refine jr_bipush hg (nI 7) dX8_kindOf_203 (by decide) ?_
                      refine jr_goto (tgt := 209) hg dX8_kindOf_205 (by decide) ?_
                      exact jr_iret hg rfl dX8_kindOf_209 (⟨by rw [show z_w s b = 8 from zfind_of (j := 7) (by decide) (by rw [hwe]; exact h200) (fun j hj => by rw [hwe]; rcases (show j = 0 ∨ j = 1 ∨ j = 2 ∨ j = 3 ∨ j = 4 ∨ j = 5 ∨ j = 6 by omega) with rfl | rfl | rfl | rfl | rfl | rfl | rfl <;> first | exact h15 | exact h33 | exact h52 | exact h71 | exact h90 | exact h109 | exact h6f)]; rfl, rfl⟩)
                  · refine jr_aload_n hg 0 rfl rfl dX8_kindOf_166 ?_
                    refine gf_X8_16 hg (hI 35 (by decide)) dX8_kindOf_167 ?_
                    refine jr_aload_n hg 0 rfl rfl dX8_kindOf_170 ?_
                    refine gf_X8_118 hg (hI 35 (by decide)) dX8_kindOf_171 ?_
                    refine jr_top (hF) ?_
                    refine jr_bipush hg (nI 7) dX8_kindOf_174 (by decide) ?_
                    refine jr_iaddN hg dX8_kindOf_176 ?_
                    refine jr_ialdN hg (n := 160) (by omega) (by decide) (hI 38 (by decide)) (ac_38 _ _) dX8_kindOf_177 ?_
                    refine jr_top (Rg.2.1 _ (by omega)) ?_
                    refine jr_bipush hg (nI 101) dX8_kindOf_178 (by decide) ?_
                    refine jr_icmp_neN (tgt := 186) hg dX8_kindOf_180 (by decide) (by omega) (by omega) (fun h180 => ?_) (fun h180 => ?_)
                    · have h6f : z_wm s b e 6 = false := by rw [hpn _ _ _ rfl rfl rfl]; simp [Ne.symm h180]
                      refine jr_aload_n hg 0 rfl rfl dX8_kindOf_186 ?_
                      refine jr_iconst hg (nI 4) dX8_kindOf_187 (by decide) ?_
                      refine jr_bipush hg (nI 115) dX8_kindOf_188 (by decide) ?_
                      refine jr_bipush hg (nI 117) dX8_kindOf_190 (by decide) ?_
                      refine jr_bipush hg (nI 114) dX8_kindOf_192 (by decide) ?_
                      refine jr_bipush hg (nI 101) dX8_kindOf_194 (by decide) ?_
                      refine jr_iconst hg (nI 0) dX8_kindOf_196 (by decide) ?_
                      refine jr_cV6v hg lk_X8_121 (hI 35 (by decide)) rfl rfl (by decide) (by decide) (Nat.le_of_ble_eq_true rfl) dX8_kindOf_197 (c_isW_7 hI Rg Wt hF hG hbe he) ?_
                      refine jr_if_eqZ (tgt := 208) hg dX8_kindOf_200 (by decide) (fun h200 => ?_) (fun h200 => ?_)
                      · refine jr_iconst hg (-1) dX8_kindOf_208 (by decide) ?_
                        exact jr_iret hg rfl dX8_kindOf_209 (⟨by rw [show z_w s b = 0 from zfind_of0 (fun j hj => by rw [hwe]; rcases (show j = 0 ∨ j = 1 ∨ j = 2 ∨ j = 3 ∨ j = 4 ∨ j = 5 ∨ j = 6 ∨ j = 7 by omega) with rfl | rfl | rfl | rfl | rfl | rfl | rfl | rfl <;> first | exact h15 | exact h33 | exact h52 | exact h71 | exact h90 | exact h109 | exact h6f | exact h200)]; rfl, rfl⟩)
                      · refine jr_bipush hg (nI 7) dX8_kindOf_203 (by decide) ?_
                        refine jr_goto (tgt := 209) hg dX8_kindOf_205 (by decide) ?_
                        exact jr_iret hg rfl dX8_kindOf_209 (⟨by rw [show z_w s b = 8 from zfind_of (j := 7) (by decide) (by rw [hwe]; exact h200) (fun j hj => by rw [hwe]; rcases (show j = 0 ∨ j = 1 ∨ j = 2 ∨ j = 3 ∨ j = 4 ∨ j = 5 ∨ j = 6 by omega) with rfl | rfl | rfl | rfl | rfl | rfl | rfl <;> first | exact h15 | exact h33 | exact h52 | exact h71 | exact h90 | exact h109 | exact h6f)]; rfl, rfl⟩)
                    · have h6t : z_wm s b e 6 = true := by rw [hpn _ _ _ rfl rfl rfl, h146, h163, h180]; rfl
                      refine jr_bipush hg (nI 6) dX8_kindOf_183 (by decide) ?_
                      exact jr_iret hg rfl dX8_kindOf_185 (⟨by rw [show z_w s b = 7 from zfind_of (j := 6) (by decide) (by rw [hwe]; exact h6t) (fun j hj => by rw [hwe]; rcases (show j = 0 ∨ j = 1 ∨ j = 2 ∨ j = 3 ∨ j = 4 ∨ j = 5 by omega) with rfl | rfl | rfl | rfl | rfl | rfl <;> first | exact h15 | exact h33 | exact h52 | exact h71 | exact h90 | exact h109 | exact h6f)]; rfl, rfl⟩)
            · refine jr_iconst hg (nI 5) dX8_kindOf_112 (by decide) ?_
              exact jr_iret hg rfl dX8_kindOf_113 (⟨by rw [show z_w s b = 6 from zfind_of (j := 5) (by decide) (by rw [hwe]; exact h109) (fun j hj => by rw [hwe]; rcases (show j = 0 ∨ j = 1 ∨ j = 2 ∨ j = 3 ∨ j = 4 by omega) with rfl | rfl | rfl | rfl | rfl <;> first | exact h15 | exact h33 | exact h52 | exact h71 | exact h90 | exact h109)]; rfl, rfl⟩)
          · refine jr_iconst hg (nI 4) dX8_kindOf_93 (by decide) ?_
            exact jr_iret hg rfl dX8_kindOf_94 (⟨by rw [show z_w s b = 5 from zfind_of (j := 4) (by decide) (by rw [hwe]; exact h90) (fun j hj => by rw [hwe]; rcases (show j = 0 ∨ j = 1 ∨ j = 2 ∨ j = 3 by omega) with rfl | rfl | rfl | rfl <;> first | exact h15 | exact h33 | exact h52 | exact h71 | exact h90 | exact h109)]; rfl, rfl⟩)
        · refine jr_iconst hg (nI 3) dX8_kindOf_74 (by decide) ?_
          exact jr_iret hg rfl dX8_kindOf_75 (⟨by rw [show z_w s b = 4 from zfind_of (j := 3) (by decide) (by rw [hwe]; exact h71) (fun j hj => by rw [hwe]; rcases (show j = 0 ∨ j = 1 ∨ j = 2 by omega) with rfl | rfl | rfl <;> first | exact h15 | exact h33 | exact h52 | exact h71 | exact h90 | exact h109)]; rfl, rfl⟩)
      · refine jr_iconst hg (nI 2) dX8_kindOf_55 (by decide) ?_
        exact jr_iret hg rfl dX8_kindOf_56 (⟨by rw [show z_w s b = 3 from zfind_of (j := 2) (by decide) (by rw [hwe]; exact h52) (fun j hj => by rw [hwe]; rcases (show j = 0 ∨ j = 1 by omega) with rfl | rfl <;> first | exact h15 | exact h33 | exact h52 | exact h71 | exact h90 | exact h109)]; rfl, rfl⟩)
    · refine jr_iconst hg (nI 1) dX8_kindOf_36 (by decide) ?_
      exact jr_iret hg rfl dX8_kindOf_37 (⟨by rw [show z_w s b = 2 from zfind_of (j := 1) (by decide) (by rw [hwe]; exact h33) (fun j hj => by rw [hwe]; rcases (show j = 0 by omega) with rfl <;> first | exact h15 | exact h33 | exact h52 | exact h71 | exact h90 | exact h109)]; rfl, rfl⟩)
  · refine jr_iconst hg (nI 0) dX8_kindOf_18 (by decide) ?_
    exact jr_iret hg rfl dX8_kindOf_19 (⟨by rw [show z_w s b = 1 from zfind_of (j := 0) (by decide) (by rw [hwe]; exact h15) (fun j hj => absurd hj (Nat.not_lt_zero _))]; rfl, rfl⟩)
