/-! String constants and static tables: rows over mm_J -/
section STRROWS
variable {g : mm_G} {E : mm_E} {i : mm_I} {own : String} {post : Option Value → mm_M → Prop} {pc : Nat} {lv : List (Nat × Value)} {rest : List Value} {M : mm_M}
theorem mm_Ok.N (hg : mm_Ok g E i own) : mm_N E (mm_A E g.2.2.1.heap.size) g.2.2.1 g.2.2.1.heap := hg.2.2.2.2.2.2.2.2.2
theorem mm_Ok.NS (hg : mm_Ok g E i own) : mm_NS E (mm_A E g.2.2.1.heap.size) g.2.2.1 g.2.2.1.heap := hg.2.2.2.2.2.2.2.2.2.2.2.2.2
theorem jr_gets (hg : mm_Ok g E i own) {C n d : String} {v : Value} {idx : Nat} (hZ : va_Z C n d v (mm_A E g.2.2.1.heap.size) g.2.2.1 g.2.2.1.heap) (hl : Cond.fieldLink own idx C n d ∈ GW) (hd : decode i.2.1 pc = .ok (.getstatic idx, 3)) (k : mm_J g E i post (pc + 3) lv (v :: rest) M) : mm_J g E i post pc lv rest M := fun H locs ls hP hS hl0 =>
  va_gets hg.1 hg.2.1 hZ hS hg.2.2.2.2.1 (hg.2.2.2.2.2.1 _ hl) (fun _ h => h) hd (k H locs ls hP hS hl0)
theorem jr_ti (hg : mm_Ok g E i own) {t N : Nat} {f : Nat → Int32} {x : Nat} (hT : va_T .int t N (fun j => .int (f j)) (mm_A E g.2.2.1.heap.size) g.2.2.1 g.2.2.1.heap) (hx : x < N) (hN : N < 2 ^ 31) (hd : decode i.2.1 pc = .ok (.iaload, 1)) (k : mm_J g E i post (pc + 1) lv (.int (f x) :: rest) M) : mm_J g E i post pc lv (.int (nI x) :: .ref t :: rest) M := fun H locs ls hP hS hl0 =>
  va_ti hg.1 hg.2.1 hT hS (vp_in_nI hx hN) (v := .int (f x)) (by show Value.int (f (nI x).toNatClampNeg) = _; rw [nI_clamp (Nat.lt_trans hx hN)]) hd (k H locs ls hP hS hl0)
theorem jr_tb (hg : mm_Ok g E i own) {t N : Nat} {f : Nat → Int32} {x : Nat} (hT : va_T .byte t N (fun j => .int (f j)) (mm_A E g.2.2.1.heap.size) g.2.2.1 g.2.2.1.heap) (hx : x < N) (hN : N < 2 ^ 31) (hd : decode i.2.1 pc = .ok (.baload, 1)) (k : mm_J g E i post (pc + 1) lv (.int (f x) :: rest) M) : mm_J g E i post pc lv (.int (nI x) :: .ref t :: rest) M := fun H locs ls hP hS hl0 =>
  va_tb hg.1 hg.2.1 hT hS (vp_in_nI hx hN) (v := .int (f x)) (by show Value.int (f (nI x).toNatClampNeg) = _; rw [nI_clamp (Nat.lt_trans hx hN)]) hd (k H locs ls hP hS hl0)
theorem jr_tlen (hg : mm_Ok g E i own) {t N : Nat} {f : Nat → Value} {ty : FieldType} (hT : va_T ty t N f (mm_A E g.2.2.1.heap.size) g.2.2.1 g.2.2.1.heap) (hd : decode i.2.1 pc = .ok (.arraylength, 1)) (k : mm_J g E i post (pc + 1) lv (.int (nI N) :: rest) M) : mm_J g E i post pc lv (.ref t :: rest) M := fun H locs ls hP hS hl0 =>
  va_tlen hg.1 hg.2.1 hT hS (v := nI N) rfl hd (k H locs ls hP hS hl0)
theorem jr_of (hg : mm_Ok g E i own) {C n d : String} {v : Value} {q idx : Nat} (hE : va_OF C n d v q (mm_A E g.2.2.1.heap.size) g.2.2.1 g.2.2.1.heap) (hl : Cond.fieldLink own idx C n d ∈ GW) (hd : decode i.2.1 pc = .ok (.getfield idx, 3)) (k : mm_J g E i post (pc + 3) lv (v :: rest) M) : mm_J g E i post pc lv (.ref q :: rest) M := fun H locs ls hP hS hl0 =>
  vk_getf hg.1 hg.2.1 hE hS hg.2.2.2.2.1 (hg.2.2.2.2.2.1 _ hl) (fun _ h => h) hd (k H locs ls hP hS hl0)
theorem jr_ldcS (hg : mm_Ok g E i own) {tx : String} {q idx : Nat} (hZ : vk_R own idx tx q g.2.2.1) (hd : decode i.2.1 pc = .ok (.ldc idx, 2)) (k : mm_J g E i post (pc + 2) lv (.ref q :: rest) M) : mm_J g E i post pc lv rest M := fun H locs ls hP hS hl0 =>
  va_ldcS hg.1 hg.2.1 hg.2.2.2.2.1 hZ hd (k H locs ls hP hS hl0)
theorem jr_aret (hg : mm_Ok g E i own) {q : Nat} {nm : String} (hr : i.2.2.2.1 = some (.object nm)) (hd : decode i.2.1 pc = .ok (.areturn, 1)) (h : post (some (.ref q)) M) : mm_J g E i post pc lv [.ref q] M := fun H locs ls hP hS hl =>
  W.aret hg.1 hg.2.1 (hg.2.2.1.trans hr) (Or.inl ⟨nm, rfl⟩) (Or.inr ⟨q, rfl⟩) (fun t ht hW => ⟨⟨some (.ref q), M, rfl, h, by rw [ht]; exact hP⟩, hS.F ht⟩) hS.2.2 hd hg.2.2.2.2.2.2.2.2.1
theorem jr_nret (hg : mm_Ok g E i own) {v : Int32} {ty : FieldType} (hr : i.2.2.2.1 = some ty) (hn : narrow ty (.int v) = .int v) (hd : decode i.2.1 pc = .ok (.ireturn, 1)) (h : post (some (.int v)) M) : mm_J g E i post pc lv [.int v] M := fun H locs ls hP hS hl =>
  W.zret hg.1 hg.2.1 (hg.2.2.1.trans hr) hn (fun t ht hW => ⟨⟨some (.int v), M, rfl, h, by rw [ht]; exact hP⟩, hS.F ht⟩) hS.2.2 hd hg.2.2.2.2.2.2.2.2.1
theorem jr_i2c (hg : mm_Ok g E i own) {x v : Int32} (hd : decode i.2.1 pc = .ok (.i2c, 1)) (hv : (x.toUInt32 % 65536).toInt32 = v) (k : mm_J g E i post (pc + 1) lv (.int v :: rest) M) : mm_J g E i post pc lv (.int x :: rest) M := fun H locs ls hP hS hl => lv_i2c hg.1 hg.2.1 hd hv (k H locs ls hP hS hl)
theorem jr_iflags (hg : mm_Ok g E i own) {x y : Int32} (h : x = y) (k : mm_J g E i post pc lv (.int y :: rest) M) : mm_J g E i post pc lv (.int x :: rest) M := h ▸ k
/-- a call of a String constant's method -/
theorem jr_callVS (hg : mm_Ok g E i own) {n w idx : Nat} {As : List Value} {j : mm_I} {post' : Option Value → mm_M → Prop} (hlk : mm_LV own idx "java/lang/String" j n) (hw : w < 8) (hn : As.length = n) (hlv : j.2.2.2.2 < i.2.2.2.2) (hml : j.2.2.1 ≤ 10) (hcat : (rest.map fun v => v.category).sum ≤ 8) (hd : decode i.2.1 pc = .ok (.invokevirtual idx, 3)) (hcal : mm_Cal E j (.ref (E.1 (100 + w)) :: As) M post')
    (k : ∀ r M', post' r M' → mm_J g E i post (pc + 3) lv (r.toList ++ rest) M') : mm_J g E i post pc lv (As.reverse ++ .ref (E.1 (100 + w)) :: rest) M := by
  intro H locs ls hP hS hl
  have hts := hg.2.2.2.2.2.1
  obtain ⟨h1, h2, h3, h4, h5, hy⟩ := hlk
  refine jr_back hg hS hl (va_runV (As := As) (rest := rest) ⟨hg.1, hg.2.1, hg.2.2.2.1, hg.2.2.2.2.1, hts⟩ (hcal H.size) (cwV n hts (mm_good h5 [.methodLink own idx j.1, .instanceMethod j.1, .selects "java/lang/String" j.1 j.1, .initialized "java/lang/String"] (by simpa using ⟨h1, h2, h3, h4⟩)) rfl rfl rfl hy (mm_room hlv hml)) ⟨mm_blind, vk_recv (adK := fun i => E.1 (100 + i)) hg.NS.2.1 hw hS, fun U hU hW => mm_pre hg hP hS _ U hU hW⟩ rfl hn hl.1 rfl (lv_room hcat) hd ⟨Nat.zero_le _, Nat.zero_le _⟩) k
end STRROWS

abbrev mJ0_length_8abf5 : mm_I := (yJ0_length_8abf5, cJ0_length_8abf5, 1, (some .int), 1)

abbrev mJ0_charAt_5068e : mm_I := (yJ0_charAt_5068e, cJ0_charAt_5068e, 2, (some .char), 4)

abbrev mJ0_coder_7d493 : mm_I := (yJ0_coder_7d493, cJ0_coder_7d493, 1, (some .byte), 0)

abbrev mJ0_isLatin1_aae02 : mm_I := (yJ0_isLatin1_aae02, cJ0_isLatin1_aae02, 1, (some .boolean), 0)

abbrev mJ0_checkIndex_df160 : mm_I := (yJ0_checkIndex_df160, cJ0_checkIndex_df160, 2, none, 1)

abbrev mJ1_charAt_3b067 : mm_I := (yJ1_charAt_3b067, cJ1_charAt_3b067, 2, (some .char), 2)

abbrev mJ3_checkIndex_8e157 : mm_I := (yJ3_checkIndex_8e157, cJ3_checkIndex_8e157, 3, (some .int), 0)

theorem lk_X1_98 : mm_LV RX1 98 "java/lang/String" mJ0_length_8abf5 0 := ⟨wm_13_1, wm_13_2, wm_13_3, wm_13_4, wm_13_5, by decide +kernel⟩

theorem lk_X1_103 : mm_LV RX1 103 "java/lang/String" mJ0_charAt_5068e 1 := ⟨wm_13_13, wm_13_14, wm_13_15, wm_13_4, wm_13_16, by decide +kernel⟩

theorem lk_J0_335 : mm_LV RJ0 335 "java/lang/String" mJ0_coder_7d493 0 := ⟨wm_13_7, wm_13_8, wm_13_9, wm_13_4, wm_13_10, by decide +kernel⟩

theorem lk_J0_492 : mm_LV RJ0 492 "java/lang/String" mJ0_isLatin1_aae02 0 := ⟨wm_13_17, wm_13_18, wm_13_19, wm_13_4, wm_13_20, by decide +kernel⟩

theorem lk_J0_495 : mm_LS RJ0 495 mJ1_charAt_3b067 2 := ⟨wm_13_21, wm_13_22, wm_13_23, wm_14_0, by decide +kernel⟩

theorem lk_J1_9 : mm_LS RJ1 9 mJ0_checkIndex_df160 2 := ⟨wm_14_1, wm_14_2, wm_13_4, wm_14_3, by decide +kernel⟩

theorem lk_J0_1059 : mm_LS RJ0 1059 mJ3_checkIndex_8e157 3 := ⟨wm_14_5, wm_14_6, wm_14_7, wm_14_8, by decide +kernel⟩

set_option maxRecDepth 100000 in
theorem c_coder {E : mm_E} {M : mm_M} {w : Nat} (hw : w < 8) : mm_Cal E mJ0_coder_7d493 [.ref (E.1 (100 + w))] M (ret1 (.int (nI 0)) M) := by
  refine jr_entry RJ0 (by decide +kernel) (Nat.le_of_ble_eq_true rfl) (fun g hg => ?_)
  refine jr_lv (lv' := [(0, .ref (E.1 (100 + w)))]) [0] rfl ?_
  refine jr_gets hg hg.NS.2.2.1 wm_13_11 dJ0_coder_7d493_0 ?_
  refine jr_if_eqN (a := 1) (tgt := 13) hg dJ0_coder_7d493_3 (by decide) (by omega) (fun h => by omega) (fun h3 => ?_)
  refine jr_aload_n hg 0 rfl rfl dJ0_coder_7d493_6 ?_
  refine jr_of hg (hg.NS.2.1.1 w hw).2.1 wm_13_12 dJ0_coder_7d493_7 ?_
  refine jr_goto (tgt := 14) hg dJ0_coder_7d493_10 (by decide) ?_
  exact jr_nret hg (ty := .byte) rfl (by decide) dJ0_coder_7d493_14 ⟨rfl, rfl⟩

set_option maxRecDepth 100000 in
theorem c_isLatin1 {E : mm_E} {M : mm_M} {w : Nat} (hw : w < 8) : mm_Cal E mJ0_isLatin1_aae02 [.ref (E.1 (100 + w))] M (ret1 (.int (nI 1)) M) := by
  refine jr_entry RJ0 (by decide +kernel) (Nat.le_of_ble_eq_true rfl) (fun g hg => ?_)
  refine jr_lv (lv' := [(0, .ref (E.1 (100 + w)))]) [0] rfl ?_
  refine jr_gets hg hg.NS.2.2.1 wm_13_11 dJ0_isLatin1_aae02_0 ?_
  refine jr_if_eqN (a := 1) (tgt := 17) hg dJ0_isLatin1_aae02_3 (by decide) (by omega) (fun h => by omega) (fun h3 => ?_)
  refine jr_aload_n hg 0 rfl rfl dJ0_isLatin1_aae02_6 ?_
  refine jr_of hg (hg.NS.2.1.1 w hw).2.1 wm_13_12 dJ0_isLatin1_aae02_7 ?_
  refine jr_if_neN (a := 0) (tgt := 17) hg dJ0_isLatin1_aae02_10 (by decide) (by omega) (fun h => by omega) (fun h10 => ?_)
  refine jr_iconst hg (nI 1) dJ0_isLatin1_aae02_13 (by decide) ?_
  refine jr_goto (tgt := 18) hg dJ0_isLatin1_aae02_14 (by decide) ?_
  exact jr_zret hg rfl (Or.inr rfl) dJ0_isLatin1_aae02_18 ⟨rfl, rfl⟩

def z_wl (w : Nat) : Nat := mm_tl.getD w 0
def z_wc (w j : Nat) : Nat := ((mm_tb.getD w []).getD j 0).toInt.toNat
theorem z_wl_1 : ∀ w, w < 8 → 3 ≤ z_wl w ∧ z_wl w ≤ 8 := by decide +kernel
theorem z_wl_sh : ∀ w, w < 8 → nI (z_wl w) >>> (nI 0 &&& 31) = nI (z_wl w) := by decide +kernel
theorem z_wc_1 : ∀ w, w < 8 → ∀ j, j < z_wl w → (((((mm_tb.getD w []).getD j 0) &&& nI 255).toUInt32 % 65536).toInt32 = nI (z_wc w j) ∧ narrow .char (.int (nI (z_wc w j))) = .int (nI (z_wc w j))) ∧ 97 ≤ z_wc w j ∧ z_wc w j ≤ 122 := by decide +kernel

set_option maxRecDepth 100000 in
theorem c_length {E : mm_E} {M : mm_M} {w : Nat} (hw : w < 8) : mm_Cal E mJ0_length_8abf5 [.ref (E.1 (100 + w))] M (ret1 (.int (nI (z_wl w))) M) := by
  refine jr_entry RJ0 (by decide +kernel) (Nat.le_of_ble_eq_true rfl) (fun g hg => ?_)
  refine jr_lv (lv' := [(0, .ref (E.1 (100 + w)))]) [0] rfl ?_
  refine jr_aload_n hg 0 rfl rfl dJ0_length_8abf5_0 ?_
  refine jr_of hg (hg.NS.2.1.1 w hw).2.2.1 wm_13_6 dJ0_length_8abf5_1 ?_
  refine jr_tlen hg (hg.NS.2.1.1 w hw).2.2.2 dJ0_length_8abf5_4 ?_
  refine jr_aload_n hg 0 rfl rfl dJ0_length_8abf5_5 ?_
  refine jr_callVS (As := []) hg lk_J0_335 hw rfl (by decide) (by decide) (Nat.le_of_ble_eq_true rfl) dJ0_length_8abf5_6 (c_coder hw) (fun r M' h => ?_)
  obtain ⟨rfl, rfl⟩ := h
  refine jr_ishr hg dJ0_length_8abf5_9 ?_
  refine jr_top (z_wl_sh w hw) ?_
  exact jr_iret hg rfl dJ0_length_8abf5_10 ⟨rfl, rfl⟩

set_option maxRecDepth 100000 in
theorem c_chk3n {E : mm_E} {M : mm_M} {j n : Nat} (hj : j < n) (hn : n < 2 ^ 31) : mm_Cal E mJ3_checkIndex_8e157 [.int (nI j), .int (nI n), .null] M (ret1 (.int (nI j)) M) := by
  refine jr_entry RJ3 (by decide +kernel) (Nat.le_of_ble_eq_true rfl) (fun g hg => ?_)
  refine jr_lv (lv' := [(0, .int (nI j)), (1, .int (nI n))]) [0, 1] rfl ?_
  refine jr_iload_n hg 0 rfl rfl dJ3_checkIndex_8e157_0 ?_
  refine jr_if_ltN hg dJ3_checkIndex_8e157_1 (tgt := 9) (by decide) (by omega) ?_
  refine jr_iload_n hg 0 rfl rfl dJ3_checkIndex_8e157_4 ?_
  refine jr_iload_n hg 1 rfl rfl dJ3_checkIndex_8e157_5 ?_
  refine jr_icmp_ltN (tgt := 16) hg dJ3_checkIndex_8e157_6 (by decide) (by omega) (by omega) (fun h6 => ?_) (fun h => by omega)
  refine jr_iload_n hg 0 rfl rfl dJ3_checkIndex_8e157_16 ?_
  exact jr_iret hg rfl dJ3_checkIndex_8e157_17 ⟨rfl, rfl⟩

set_option maxRecDepth 100000 in
theorem c_chk3r {E : mm_E} {M : mm_M} {j n : Nat} {t : Nat} (hj : j < n) (hn : n < 2 ^ 31) : mm_Cal E mJ3_checkIndex_8e157 [.int (nI j), .int (nI n), .ref t] M (ret1 (.int (nI j)) M) := by
  refine jr_entry RJ3 (by decide +kernel) (Nat.le_of_ble_eq_true rfl) (fun g hg => ?_)
  refine jr_lv (lv' := [(0, .int (nI j)), (1, .int (nI n))]) [0, 1] rfl ?_
  refine jr_iload_n hg 0 rfl rfl dJ3_checkIndex_8e157_0 ?_
  refine jr_if_ltN hg dJ3_checkIndex_8e157_1 (tgt := 9) (by decide) (by omega) ?_
  refine jr_iload_n hg 0 rfl rfl dJ3_checkIndex_8e157_4 ?_
  refine jr_iload_n hg 1 rfl rfl dJ3_checkIndex_8e157_5 ?_
  refine jr_icmp_ltN (tgt := 16) hg dJ3_checkIndex_8e157_6 (by decide) (by omega) (by omega) (fun h6 => ?_) (fun h => by omega)
  refine jr_iload_n hg 0 rfl rfl dJ3_checkIndex_8e157_16 ?_
  exact jr_iret hg rfl dJ3_checkIndex_8e157_17 ⟨rfl, rfl⟩

set_option maxRecDepth 100000 in
theorem c_chk0 {E : mm_E} {M : mm_M} {j n : Nat} (hj : j < n) (hn : n < 2 ^ 31) : mm_Cal E mJ0_checkIndex_df160 [.int (nI j), .int (nI n)] M (ret0 M) := by
  refine jr_entry RJ0 (by decide +kernel) (Nat.le_of_ble_eq_true rfl) (fun g hg => ?_)
  refine jr_lv (lv' := [(0, .int (nI j)), (1, .int (nI n))]) [0, 1] rfl ?_
  refine jr_iload_n hg 0 rfl rfl dJ0_checkIndex_df160_0 ?_
  refine jr_iload_n hg 1 rfl rfl dJ0_checkIndex_df160_1 ?_
  rcases hg.NS.2.2.2 with hz | ⟨t, hz⟩
  · skip
    refine jr_gets hg hz wm_14_4 dJ0_checkIndex_df160_2 ?_
    refine jr_callS (As := [.int (nI j), .int (nI n), .null]) hg lk_J0_1059 rfl (by decide) (by decide) (Nat.le_of_ble_eq_true rfl) dJ0_checkIndex_df160_5 (c_chk3n hj hn) (fun r M' h => ?_)
    obtain ⟨rfl, rfl⟩ := h
    refine jr_pop hg dJ0_checkIndex_df160_8 rfl ?_
    exact jr_vret hg rfl dJ0_checkIndex_df160_9 ⟨rfl, rfl⟩
  · skip
    refine jr_gets hg hz wm_14_4 dJ0_checkIndex_df160_2 ?_
    refine jr_callS (As := [.int (nI j), .int (nI n), .ref t]) hg lk_J0_1059 rfl (by decide) (by decide) (Nat.le_of_ble_eq_true rfl) dJ0_checkIndex_df160_5 (c_chk3r hj hn) (fun r M' h => ?_)
    obtain ⟨rfl, rfl⟩ := h
    refine jr_pop hg dJ0_checkIndex_df160_8 rfl ?_
    exact jr_vret hg rfl dJ0_checkIndex_df160_9 ⟨rfl, rfl⟩

set_option maxRecDepth 100000 in
theorem c_charAt1 {E : mm_E} {M : mm_M} {w j : Nat} (hw : w < 8) (hj : j < z_wl w) : mm_Cal E mJ1_charAt_3b067 [.ref (E.1 (200 + w)), .int (nI j)] M (ret1 (.int (nI (z_wc w j))) M) := by
  have hwl := z_wl_1 w hw
  refine jr_entry RJ1 (by decide +kernel) (Nat.le_of_ble_eq_true rfl) (fun g hg => ?_)
  refine jr_lv (lv' := [(0, .ref (E.1 (200 + w))), (1, .int (nI j))]) [0, 1] rfl ?_
  refine jr_iload_n hg 1 rfl rfl dJ1_charAt_3b067_0 ?_
  refine jr_aload_n hg 0 rfl rfl dJ1_charAt_3b067_1 ?_
  refine jr_tlen hg (hg.NS.2.1.1 w hw).2.2.2 dJ1_charAt_3b067_2 ?_
  refine jr_callS (As := [.int (nI j), .int (nI (z_wl w))]) hg lk_J1_9 rfl (by decide) (by decide) (Nat.le_of_ble_eq_true rfl) dJ1_charAt_3b067_3 (c_chk0 hj (by omega)) (fun r M' h => ?_)
  obtain ⟨rfl, rfl⟩ := h
  refine jr_st (show _ = [] from rfl) ?_
  refine jr_aload_n hg 0 rfl rfl dJ1_charAt_3b067_6 ?_
  refine jr_iload_n hg 1 rfl rfl dJ1_charAt_3b067_7 ?_
  refine jr_tb hg (hg.NS.2.1.1 w hw).2.2.2 (show j < mm_tl.getD w 0 from hj) (show mm_tl.getD w 0 < 2 ^ 31 from Nat.lt_of_le_of_lt hwl.2 (by decide)) dJ1_charAt_3b067_8 ?_
  refine jr_sipush hg (nI 255) dJ1_charAt_3b067_9 (by decide) ?_
  refine jr_iand hg dJ1_charAt_3b067_12 ?_
  refine jr_i2c hg dJ1_charAt_3b067_13 (z_wc_1 w hw j hj).1.1 ?_
  exact jr_nret hg (ty := .char) rfl (z_wc_1 w hw j hj).1.2 dJ1_charAt_3b067_14 ⟨rfl, rfl⟩

set_option maxRecDepth 100000 in
theorem c_charAt {E : mm_E} {M : mm_M} {w j : Nat} (hw : w < 8) (hj : j < z_wl w) : mm_Cal E mJ0_charAt_5068e [.ref (E.1 (100 + w)), .int (nI j)] M (ret1 (.int (nI (z_wc w j))) M) := by
  refine jr_entry RJ0 (by decide +kernel) (Nat.le_of_ble_eq_true rfl) (fun g hg => ?_)
  refine jr_lv (lv' := [(0, .ref (E.1 (100 + w))), (1, .int (nI j))]) [0, 1] rfl ?_
  refine jr_aload_n hg 0 rfl rfl dJ0_charAt_5068e_0 ?_
  refine jr_callVS (As := []) hg lk_J0_492 hw rfl (by decide) (by decide) (Nat.le_of_ble_eq_true rfl) dJ0_charAt_5068e_1 (c_isLatin1 hw) (fun r M' h => ?_)
  obtain ⟨rfl, rfl⟩ := h
  refine jr_st (show _ = [.int (nI 1)] from rfl) ?_
  refine jr_if_eqN (a := 1) (tgt := 16) hg dJ0_charAt_5068e_4 (by decide) (by omega) (fun h => by omega) (fun h3 => ?_)
  refine jr_aload_n hg 0 rfl rfl dJ0_charAt_5068e_7 ?_
  refine jr_of hg (hg.NS.2.1.1 w hw).2.2.1 wm_13_6 dJ0_charAt_5068e_8 ?_
  refine jr_iload_n hg 1 rfl rfl dJ0_charAt_5068e_11 ?_
  refine jr_callS (As := [.ref (E.1 (200 + w)), .int (nI j)]) hg lk_J0_495 rfl (by decide) (by decide) (Nat.le_of_ble_eq_true rfl) dJ0_charAt_5068e_12 (c_charAt1 hw hj) (fun r M' h => ?_)
  obtain ⟨rfl, rfl⟩ := h
  exact jr_nret hg (ty := .char) rfl (z_wc_1 w hw j hj).1.2 dJ0_charAt_5068e_15 ⟨rfl, rfl⟩
