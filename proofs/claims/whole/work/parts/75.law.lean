/-! the law -/
abbrev la_7 : List Nat := [7, 1, 8, 9, 10, 0, 4, 20, 21, 22, 23, 24, 2, 11, 3, 12, 13, 14, 15, 16, 17, 18, 19, 6, 30, 31, 32, 33, 34, 5, 25, 26, 27, 28, 29]
abbrev la_8 : List Nat := [35, 36, 37, 38, 39, 40, 41, 42, 43, 44, 45, 46, 47, 48, 49, 50, 51, 52, 53, 54, 55, 56, 57, 58, 59]
section LA
variable {p : Program} {l : Launch} {e : Env} {R : Room} {s : State} {m : MethodId} {args : Array Value} {below : List Frame} {meth : Method} {c : Code} {H : Heap} {locs : List Loc} {cells slots : Nat} {Q : State → Prop}
variable {cc : ByteArray} {pc : Nat} {ls : Array Slot} {rest : List Value} {A : Nat → Prop}
theorem ct_back2 {E : mm_E} {wx : va_W} {st0 : List Value} {post' : Option Value → mm_M → Prop} {a : Array Value} (hAE : ∀ c, c ∈ E.2.1 → A (E.1 c)) (hA : ∀ q, s.heap.size ≤ q → A q) (hS : va_S A s.heap H locs) (hX : va_P E.2.2.1 vwCl wx H) (hdis : ∀ (i : Nat) (x : Nat × va_E), wx[i]? = some x → ∀ c, c ∈ E.2.1 → x.1 ≠ E.1 c)
    (hr : va_Run p l e R s m args below meth c H locs cells slots 0 0 (F0 m pc ls st0) rest (mm_Q E post' (mm_A E H.size) a) (mm_A E H.size))
    (k : ∀ r M' H1 locs1, post' r M' → va_P E.2.2.1 vwCl (mm_wd E M') H1 → va_P E.2.2.1 vwCl wx H1 → va_S A s.heap H1 locs1 → W p l e R s m args below meth c H1 locs1 cells slots Q (F0 m (pc + 3) ls (r.toList ++ rest))) : W p l e R s m args below meth c H locs cells slots Q (F0 m pc ls st0) := by
  have hsub : ∀ q : Nat, mm_A E H.size q → A q := fun q h => h.elim (fun ⟨c, hc, e⟩ => by rw [e]; exact hAE c hc) (fun z => hA q (Nat.le_trans hS.1 z))
  intro T hT X
  obtain ⟨v, st₀, t, T', L, h0, X', hL, e1, e2, ⟨⟨r, M', hv, hp, hb⟩, hz, hk⟩, st⟩ := hr T hT X
  cases hv
  rw [h0] at hz hk
  have hne : ∀ (i : Nat) (x : Nat × va_E), wx[i]? = some x → ¬ mm_A E H.size x.1 := fun i x hi h => h.elim (fun ⟨c, hc, e⟩ => hdis i x hi c hc e) (fun w => by have := (hX i x hi).lt; omega)
  have hXk : va_P E.2.2.1 vwCl wx t.heap := hX.kept (fun i x hi => hk x.1 ((hX i x hi).lt) (hne i x hi))
  obtain ⟨t2, a1, b1⟩ := k v M' T'.heap (locs ++ L) hp (by rw [e1]; exact hb) (by rw [e1]; exact hXk) ⟨Nat.le_trans hS.1 (by rw [e1]; exact hz), fun q h1 h2 => by rw [e1, hk q (Nat.lt_of_lt_of_le h1 hS.1) (fun z => h2 (hsub q z))]; exact hS.2.1 q h1 h2, fun q hq => by
      rcases List.mem_append.mp hq with h | h
      · exact hS.2.2 q h
      · exact hsub _ (hL q h)⟩ T' rfl X'
  exact ⟨t2, st t2 a1, b1⟩
theorem ct_callV2 {E : mm_E} {M : mm_M} {own : String} {nL : Nat} {wx : va_W} (F : CallFix p m c cc nL s args GW own) (hK : va_K E.2.2.1 vwCl (mm_tys E) s) (hap : mm_ap E) (hN : mm_N E A s s.heap) (hAE : ∀ c, c ∈ E.2.1 → A (E.1 c)) (hA : ∀ q, s.heap.size ≤ q → A q) (hl : E.2.2.2.2 = l) (hP : va_P E.2.2.1 vwCl (mm_wd E M) H) (hS : va_S A s.heap H locs) (hls : ls.size = nL) (hX : va_P E.2.2.1 vwCl wx H) (hdis : ∀ (i : Nat) (x : Nat × va_E), wx[i]? = some x → ∀ c, c ∈ E.2.1 → x.1 ≠ E.1 c)
    {C : String} {T : u_T} {N c0 ci idx n : Nat} {fs As : List Value} {j : mm_I} {post' : Option Value → mm_M → Prop} (hlk : mm_LV own idx C j n) (hc : c0 ∈ E.2.1) (hcl : vwCl[ci]? = some (C, T, N)) (hcel : mm_cl E (M.1 c0) (M.2 c0) c0 = .inr (ci, fs)) (hn : As.length = n) (hR : (mm_rm j.2.2.2.2).frames + 1 ≤ R.frames ∧ 8 + (j.2.2.1 + 11) + (mm_rm j.2.2.2.2).locals ≤ R.locals) (hf : cells + 0 ≤ R.cells ∧ slots + 0 ≤ R.slots) (hcat : (rest.map fun v => v.category).sum ≤ 8) (hd : decode cc pc = .ok (.invokevirtual idx, 3)) (hcal : mm_Cal E j (.ref (E.1 c0) :: As) M post')
    (k : ∀ r M' H1 locs1, post' r M' → va_P E.2.2.1 vwCl (mm_wd E M') H1 → va_P E.2.2.1 vwCl wx H1 → va_S A s.heap H1 locs1 → W p l e R s m args below meth c H1 locs1 cells slots Q (F0 m (pc + 3) ls (r.toList ++ rest))) : W p l e R s m args below meth c H locs cells slots Q (F0 m pc ls (As.reverse ++ .ref (E.1 c0) :: rest)) := by
  subst hl
  obtain ⟨q0, hq, hw⟩ := mm_pos hc
  have hts := F.2.2.2.2
  obtain ⟨h1, h2, h3, h4, h5, hy⟩ := hlk
  exact ct_back2 hAE hA hS hX hdis (va_runV (As := As) (rest := rest) F (hcal H.size) (cwV n hts (mm_good h5 [.methodLink own idx j.1, .instanceMethod j.1, .selects C j.1 j.1, .initialized C] (by simpa using ⟨h1, h2, h3, h4⟩)) rfl rfl rfl hy hR) ⟨mm_blind, va_recv hK hP hcl ((hw M).trans (by rw [hcel])), fun U hU hW => ct_pre hK hap hN hAE hA hP hS _ U hU hW⟩ rfl hn hls rfl (lv_room hcat) hd hf) k
end LA
def la_A (s : State) : Nat → Prop := fun q => s.heap.size ≤ q
def la_Fx (p : Program) (s : State) (m : MethodId) (c : Code) (z : ct_T) (a7 a8 : Nat → Nat) (b L : Nat) (xs : Nat → Int32) : Prop :=
  CallFix p m c cL_law 4 s #[Value.ref b] GW RL ∧ va_K z.1 vwCl (ct_ty z) s ∧ (mm_ap (ct_E z a7 la_7) ∧ mm_ap (ct_E z a8 la_8)) ∧ (mm_N (ct_E z a7 la_7) (la_A s) s s.heap ∧ mm_N (ct_E z a8 la_8) (la_A s) s s.heap) ∧ ((∀ c, c ∈ la_7 → la_A s (a7 c)) ∧ ∀ c, c ∈ la_8 → la_A s (a8 c)) ∧ (∀ c, c ∈ la_7 → ∀ d, d ∈ la_8 → a7 c ≠ a8 d) ∧ va_X b L xs s s.heap ∧ b < s.heap.size
def la_J (p : Program) (e : Env) (s : State) (m : MethodId) (below : List Frame) (meth : Method) (c : Code) (z : ct_T) (a7 a8 : Nat → Nat) (b : Nat) (Q : State → Prop) (i pc : Nat) (st : List Value) (M7 M8 : mm_M) : Prop :=
  ∀ (H : Heap) (locs : List Loc) (ls : Array Slot), va_P z.1 vwCl (mm_wd (ct_E z a7 la_7) M7) H → va_P z.1 vwCl (mm_wd (ct_E z a8 la_8) M8) H → va_S (la_A s) s.heap H locs → lv_has ls 4 [(0, .ref b), (1, .ref (a7 7)), (2, .ref (a8 35)), (3, .int (nI i))] → W p z.2.2 e room_1 s m #[Value.ref b] below meth c H locs 60 4434 Q (F0 m pc ls st)
section LB
variable {p : Program} {e : Env} {s : State} {m : MethodId} {below : List Frame} {meth : Method} {c : Code} {z : ct_T} {a7 a8 : Nat → Nat} {b L : Nat} {xs : Nat → Int32} {Q : State → Prop} {i pc : Nat} {st : List Value} {M7 M8 : mm_M}

theorem la_FX : mm_FX (ct_E z a7 la_7) := by
  have h : ∀ c, c < 35 → c ∈ la_7 := by decide +kernel
  exact h
theorem la_FR : mm_FR (ct_E z a8 la_8) := by
  have h : ∀ c, c < 60 → 35 ≤ c → c ∈ la_8 := by decide +kernel
  exact fun c hc => h c hc.2 hc.1
theorem la_ld7 (h : la_Fx p s m c z a7 a8 b L xs) (hd : decode cL_law pc = .ok (.aload_n 1, 1)) (kk : la_J p e s m below meth c z a7 a8 b Q i (pc + 1) (.ref (a7 7) :: st) M7 M8) : la_J p e s m below meth c z a7 a8 b Q i pc st M7 M8 := by
  intro H locs ls hP7 hP8 hS hl
  exact lv_aload_n h.1.1 h.1.2.1 hd rfl (lv_at hl 1 rfl) (kk H locs ls hP7 hP8 hS hl)
theorem la_ld8 (h : la_Fx p s m c z a7 a8 b L xs) (hd : decode cL_law pc = .ok (.aload_n 2, 1)) (kk : la_J p e s m below meth c z a7 a8 b Q i (pc + 1) (.ref (a8 35) :: st) M7 M8) : la_J p e s m below meth c z a7 a8 b Q i pc st M7 M8 := by
  intro H locs ls hP7 hP8 hS hl
  exact lv_aload_n h.1.1 h.1.2.1 hd rfl (lv_at hl 2 rfl) (kk H locs ls hP7 hP8 hS hl)
theorem la_arg (h : la_Fx p s m c z a7 a8 b L xs) (hL : L ≤ 2560) {k : Nat} {w : Int} (hik : i + k < L) (hw : Int32.ofInt w = nI k) (d0 : decode cL_law pc = .ok (.aload_n 0, 1)) (d1 : decode cL_law (pc + 1) = .ok (.iload_n 3, 1)) (d2 : decode cL_law (pc + 2) = .ok (.iconst w, 1)) (d3 : decode cL_law (pc + 3) = .ok (.iadd, 1)) (d4 : decode cL_law (pc + 4) = .ok (.iaload, 1)) (kk : la_J p e s m below meth c z a7 a8 b Q i (pc + 5) (.int (xs (i + k)) :: st) M7 M8) : la_J p e s m below meth c z a7 a8 b Q i pc st M7 M8 := by
  intro H locs ls hP7 hP8 hS hl
  obtain ⟨F, hK, -, -, -, -, hX, hbl⟩ := h
  refine lv_aload_n F.1 F.2.1 d0 rfl (lv_at hl 0 rfl) ?_
  refine lv_iload_n F.1 F.2.1 d1 rfl (lv_at hl 3 rfl) ?_
  refine lv_iconst (v := nI k) F.1 F.2.1 d2 hw ?_
  refine lv_iadd F.1 F.2.1 d3 ?_
  refine va_sld F.1 F.2.1 hX hbl (show ¬ la_A s b from Nat.not_le.mpr hbl) hS (by rw [nI_add]; exact vp_in_nI hik (by omega)) d4 ?_
  rw [nI_add, nI_clamp (by omega)]
  exact kk H locs ls hP7 hP8 hS hl
theorem la_c7 (h : la_Fx p s m c z a7 a8 b L xs) {idx n : Nat} {As rest : List Value} {j : mm_I} {r : Int32} {zs : zS} (hlk : mm_LV RL idx RX7 j n) (hn : As.length = n) (hR : (mm_rm j.2.2.2.2).frames + 1 ≤ room_1.frames ∧ 8 + (j.2.2.1 + 11) + (mm_rm j.2.2.2.2).locals ≤ room_1.locals) (hcat : (rest.map fun v => v.category).sum ≤ 8) (hd : decode cL_law pc = .ok (.invokevirtual idx, 3)) (hcal : mm_Cal (ct_E z a7 la_7) j (.ref (a7 7) :: As) M7 (fun v M' => v = some (.int r) ∧ zX zs M'))
    (kk : ∀ M', zX zs M' → la_J p e s m below meth c z a7 a8 b Q i (pc + 3) (.int r :: rest) M' M8) : la_J p e s m below meth c z a7 a8 b Q i pc (As.reverse ++ .ref (a7 7) :: rest) M7 M8 := by
  intro H locs ls hP7 hP8 hS hl
  obtain ⟨F, hK, hap, hN, hAE, hdis, hX, hbl⟩ := h
  refine ct_callV2 (E := ct_E z a7 la_7) (M := M7) (c0 := 7) (ci := 7) (T := TX7) (N := 7) (wx := mm_wd (ct_E z a8 la_8) M8) F hK hap.1 hN.1 hAE.1 (fun q w => w) rfl hP7 hS hl.1 hP8 (fun k x hk c hc => ?_) hlk (by show 7 ∈ la_7; decide) rfl rfl hn hR ⟨Nat.le_of_ble_eq_true rfl, Nat.le_of_ble_eq_true rfl⟩ hcat hd hcal (fun v M' H locs hp hP7 hP8 hS => ?_)
  · obtain ⟨d, hd, rfl⟩ := mm_wdk hk
    exact fun q => hdis c hc d (List.mem_of_getElem? hd) q.symm
  · obtain ⟨rfl, hz⟩ := hp
    exact kk M' hz H locs ls hP7 hP8 hS hl
theorem la_c8 (h : la_Fx p s m c z a7 a8 b L xs) {idx n : Nat} {As rest : List Value} {j : mm_I} {r : Int32} {zs : zS} (hlk : mm_LV RL idx RX8 j n) (hn : As.length = n) (hR : (mm_rm j.2.2.2.2).frames + 1 ≤ room_1.frames ∧ 8 + (j.2.2.1 + 11) + (mm_rm j.2.2.2.2).locals ≤ room_1.locals) (hcat : (rest.map fun v => v.category).sum ≤ 8) (hd : decode cL_law pc = .ok (.invokevirtual idx, 3)) (hcal : mm_Cal (ct_E z a8 la_8) j (.ref (a8 35) :: As) M8 (fun v M' => v = some (.int r) ∧ zR zs M'))
    (kk : ∀ M', zR zs M' → la_J p e s m below meth c z a7 a8 b Q i (pc + 3) (.int r :: rest) M7 M') : la_J p e s m below meth c z a7 a8 b Q i pc (As.reverse ++ .ref (a8 35) :: rest) M7 M8 := by
  intro H locs ls hP7 hP8 hS hl
  obtain ⟨F, hK, hap, hN, hAE, hdis, hX, hbl⟩ := h
  refine ct_callV2 (E := ct_E z a8 la_8) (M := M8) (c0 := 35) (ci := 8) (T := TX8) (N := 37) (wx := mm_wd (ct_E z a7 la_7) M7) F hK hap.2 hN.2 hAE.2 (fun q w => w) rfl hP8 hS hl.1 hP7 (fun k x hk c hc => ?_) hlk (by show 35 ∈ la_8; decide) rfl rfl hn hR ⟨Nat.le_of_ble_eq_true rfl, Nat.le_of_ble_eq_true rfl⟩ hcat hd hcal (fun v M' H locs hp hP8 hP7 hS => ?_)
  · obtain ⟨d, hd, rfl⟩ := mm_wdk hk
    exact fun q => hdis d (List.mem_of_getElem? hd) c hc q
  · obtain ⟨rfl, hz⟩ := hp
    exact kk M' hz H locs ls hP7 hP8 hS hl
theorem la_eq (h : la_Fx p s m c z a7 a8 b L xs) {r : Int32} {off : Int} (hd : decode cL_law pc = .ok (.if_icmp .eq off, 3)) (ht : (pc : Int) + off = ((1094 : Nat) : Int)) (kk : la_J p e s m below meth c z a7 a8 b Q i 1094 st M7 M8) : la_J p e s m below meth c z a7 a8 b Q i pc (.int r :: .int r :: st) M7 M8 := by
  intro H locs ls hP7 hP8 hS hl
  exact lv_icmp_eq h.1.1 h.1.2.1 hd ht (fun _ => kk H locs ls hP7 hP8 hS hl) (fun q => absurd rfl q)
theorem la_bool (h : la_Fx p s m c z a7 a8 b L xs) {x : Int32} (d0 : decode cL_law pc = .ok (.ifCond .eq 7, 3)) (d1 : decode cL_law (pc + 3) = .ok (.iconst 1, 1)) (d2 : decode cL_law (pc + 4) = .ok (.goto 4, 3)) (d3 : decode cL_law (pc + 7) = .ok (.iconst 0, 1)) (kk : la_J p e s m below meth c z a7 a8 b Q i (pc + 8) (.int (nI (if x = 0 then 0 else 1)) :: st) M7 M8) : la_J p e s m below meth c z a7 a8 b Q i pc (.int x :: st) M7 M8 := by
  intro H locs ls hP7 hP8 hS hl
  refine lv_if_eq (tgt := pc + 7) h.1.1 h.1.2.1 d0 (by omega) (fun q => ?_) (fun q => ?_)
  · rw [if_pos q] at kk
    exact lv_iconst (v := nI 0) h.1.1 h.1.2.1 d3 (by decide) (kk H locs ls hP7 hP8 hS hl)
  · rw [if_neg q] at kk
    exact lv_iconst (v := nI 1) h.1.1 h.1.2.1 d1 (by decide) (lv_goto (tgt := pc + 8) h.1.1 h.1.2.1 d2 (by omega) (kk H locs ls hP7 hP8 hS hl))
theorem la_b1 {x : Int32} : (if x = 0 then 0 else 1) ≤ 1 := by split <;> omega
theorem la_i2l (h : la_Fx p s m c z a7 a8 b L xs) {x : Int32} (hd : decode cL_law pc = .ok (.i2l, 1)) (kk : la_J p e s m below meth c z a7 a8 b Q i (pc + 1) (.long x.toInt64 :: st) M7 M8) : la_J p e s m below meth c z a7 a8 b Q i pc (.int x :: st) M7 M8 := by
  intro H locs ls hP7 hP8 hS hl
  exact lv_i2l h.1.1 h.1.2.1 hd rfl (kk H locs ls hP7 hP8 hS hl)
theorem la_shl (h : la_Fx p s m c z a7 a8 b L xs) {x : Int64} (hd : decode cL_law pc = .ok (.bipush 32, 2)) (hd2 : decode cL_law (pc + 2) = .ok (.lshl, 1)) (kk : la_J p e s m below meth c z a7 a8 b Q i (pc + 3) (.long (x <<< ((nI 32).toInt64 &&& 63)) :: st) M7 M8) : la_J p e s m below meth c z a7 a8 b Q i pc (.long x :: st) M7 M8 := by
  intro H locs ls hP7 hP8 hS hl
  refine lv_bipush (v := nI 32) h.1.1 h.1.2.1 hd (by decide) ?_
  exact lv_lshl h.1.1 h.1.2.1 hd2 rfl (kk H locs ls hP7 hP8 hS hl)
theorem la_msk (h : la_Fx p s m c z a7 a8 b L xs) {x y : Int64} (hd : decode cL_law pc = .ok (.ldc2_w 27, 3)) (hd2 : decode cL_law (pc + 3) = .ok (.land, 1)) (hd3 : decode cL_law (pc + 4) = .ok (.lor, 1)) (kk : la_J p e s m below meth c z a7 a8 b Q i (pc + 5) (.long (x ||| (y &&& 4294967295)) :: st) M7 M8) : la_J p e s m below meth c z a7 a8 b Q i pc (.long y :: .long x :: st) M7 M8 := by
  intro H locs ls hP7 hP8 hS hl
  refine lv_ldc2 (own := RL) (v := 4294967295) h.1.1 h.1.2.1 h.1.2.2.2.1 (h.1.2.2.2.2 _ wm_1_6) hd ?_
  refine lv_land h.1.1 h.1.2.1 hd2 ?_
  exact lv_lor h.1.1 h.1.2.1 hd3 (kk H locs ls hP7 hP8 hS hl)

theorem lk_L_13 : mm_LV RL 13 RX7 mX7_picture 4 := ⟨wm_7_5, wm_7_6, wm_7_7, wm_1_2, wm_7_8, by decide +kernel⟩
theorem lk_L_17 : mm_LV RL 17 RX8 mX8_picture 4 := ⟨wm_7_20, wm_7_21, wm_7_22, wm_1_5, wm_7_23, by decide +kernel⟩
theorem lk_L_18 : mm_LV RL 18 RX7 mX7_mirror 1 := ⟨wm_8_10, wm_8_11, wm_8_12, wm_1_2, wm_8_13, by decide +kernel⟩
theorem lk_L_22 : mm_LV RL 22 RX8 mX8_mirror 1 := ⟨wm_9_17, wm_9_18, wm_9_19, wm_1_5, wm_9_20, by decide +kernel⟩
theorem lk_L_23 : mm_LV RL 23 RX7 mX7_looker 1 := ⟨wm_10_1, wm_10_2, wm_10_3, wm_1_2, wm_10_4, by decide +kernel⟩
theorem lk_L_26 : mm_LV RL 26 RX8 mX8_looker 1 := ⟨wm_10_10, wm_10_11, wm_10_12, wm_1_5, wm_10_13, by decide +kernel⟩
theorem lk_L_29 : mm_LV RL 29 RX7 mX7_feed 2 := ⟨wm_10_16, wm_10_17, wm_10_18, wm_1_2, wm_10_19, by decide +kernel⟩
theorem lk_L_33 : mm_LV RL 33 RX8 mX8_feed 2 := ⟨wm_11_2, wm_11_3, wm_11_4, wm_1_5, wm_11_5, by decide +kernel⟩
theorem lk_L_34 : mm_LV RL 34 RX7 mX7_read 0 := ⟨wm_11_9, wm_11_10, wm_11_11, wm_1_2, wm_11_12, by decide +kernel⟩
theorem lk_L_38 : mm_LV RL 38 RX8 mX8_read 0 := ⟨wm_16_4, wm_16_5, wm_16_6, wm_1_5, wm_16_7, by decide +kernel⟩
theorem lk_L_39 : mm_LV RL 39 RX7 mX7_fault 0 := ⟨wm_17_15, wm_17_16, wm_17_17, wm_1_2, wm_17_18, by decide +kernel⟩
theorem lk_L_42 : mm_LV RL 42 RX8 mX8_fault 0 := ⟨wm_17_23, wm_18_0, wm_18_1, wm_1_5, wm_18_2, by decide +kernel⟩
theorem lk_L_43 : mm_LV RL 43 RX7 mX7_law 1 := ⟨wm_18_3, wm_18_4, wm_18_5, wm_1_2, wm_18_6, by decide +kernel⟩
theorem lk_L_46 : mm_LV RL 46 RX8 mX8_law 1 := ⟨wm_18_11, wm_18_12, wm_18_13, wm_1_5, wm_18_14, by decide +kernel⟩
theorem lk_L_47 : mm_LV RL 47 RX7 mX7_count 1 := ⟨wm_18_16, wm_18_17, wm_18_18, wm_1_2, wm_18_19, by decide +kernel⟩
theorem lk_L_50 : mm_LV RL 50 RX8 mX8_count 1 := ⟨wm_22_3, wm_22_4, wm_22_5, wm_1_5, wm_22_6, by decide +kernel⟩
theorem lk_L_51 : mm_LV RL 51 RX7 mX7_told 2 := ⟨wm_23_17, wm_23_18, wm_23_19, wm_1_2, wm_23_20, by decide +kernel⟩
theorem lk_L_55 : mm_LV RL 55 RX8 mX8_told 2 := ⟨wm_24_2, wm_24_3, wm_24_4, wm_1_5, wm_24_5, by decide +kernel⟩
theorem lk_L_56 : mm_LV RL 56 RX7 mX7_seed 1 := ⟨wm_24_10, wm_24_11, wm_24_12, wm_1_2, wm_24_13, by decide +kernel⟩
theorem lk_L_59 : mm_LV RL 59 RX8 mX8_seed 1 := ⟨wm_24_19, wm_24_20, wm_24_21, wm_1_5, wm_24_22, by decide +kernel⟩
theorem lk_L_60 : mm_LV RL 60 RX7 mX7_look 3 := ⟨wm_25_0, wm_25_1, wm_25_2, wm_1_2, wm_25_3, by decide +kernel⟩
theorem lk_L_64 : mm_LV RL 64 RX8 mX8_look 3 := ⟨wm_25_19, wm_25_20, wm_25_21, wm_1_5, wm_25_22, by decide +kernel⟩
theorem lk_L_65 : mm_LV RL 65 RX7 mX7_says 2 := ⟨wm_26_12, wm_26_13, wm_26_14, wm_1_2, wm_26_15, by decide +kernel⟩
theorem lk_L_68 : mm_LV RL 68 RX8 mX8_says 2 := ⟨wm_28_12, wm_28_13, wm_28_14, wm_1_5, wm_28_15, by decide +kernel⟩
theorem lk_L_69 : mm_LV RL 69 RX7 mX7_about 2 := ⟨wm_29_12, wm_29_13, wm_29_14, wm_1_2, wm_29_15, by decide +kernel⟩
theorem lk_L_72 : mm_LV RL 72 RX8 mX8_about 2 := ⟨wm_30_1, wm_30_2, wm_30_3, wm_1_5, wm_30_4, by decide +kernel⟩
theorem lk_L_73 : mm_LV RL 73 RX7 mX7_next 2 := ⟨wm_30_9, wm_30_10, wm_30_11, wm_1_2, wm_30_12, by decide +kernel⟩
theorem lk_L_76 : mm_LV RL 76 RX8 mX8_next 2 := ⟨wm_31_0, wm_31_1, wm_31_2, wm_1_5, wm_31_3, by decide +kernel⟩
theorem lk_L_77 : mm_LV RL 77 RX7 mX7_evening 3 := ⟨wm_31_8, wm_31_9, wm_31_10, wm_1_2, wm_31_11, by decide +kernel⟩
theorem lk_L_80 : mm_LV RL 80 RX8 mX8_evening 3 := ⟨wm_31_22, wm_31_23, wm_32_0, wm_1_5, wm_32_1, by decide +kernel⟩
theorem lk_L_81 : mm_LV RL 81 RX7 mX7_stays 1 := ⟨wm_32_3, wm_32_4, wm_32_5, wm_1_2, wm_32_6, by decide +kernel⟩
theorem lk_L_84 : mm_LV RL 84 RX8 mX8_stays 1 := ⟨wm_32_7, wm_32_8, wm_32_9, wm_1_5, wm_32_10, by decide +kernel⟩
theorem lk_L_85 : mm_LV RL 85 RX7 mX7_reckon 0 := ⟨wm_32_11, wm_32_12, wm_32_13, wm_1_2, wm_32_14, by decide +kernel⟩
theorem lk_L_88 : mm_LV RL 88 RX8 mX8_reckon 0 := ⟨wm_35_23, wm_36_0, wm_36_1, wm_1_5, wm_36_2, by decide +kernel⟩
theorem lk_L_89 : mm_LV RL 89 RX7 mX7_odds 2 := ⟨wm_36_21, wm_36_22, wm_36_23, wm_1_2, wm_37_0, by decide +kernel⟩
theorem lk_L_92 : mm_LV RL 92 RX8 mX8_odds 2 := ⟨wm_37_2, wm_37_3, wm_37_4, wm_1_5, wm_37_5, by decide +kernel⟩
theorem lk_L_93 : mm_LV RL 93 RX7 mX7_table 3 := ⟨wm_37_6, wm_37_7, wm_37_8, wm_1_2, wm_37_9, by decide +kernel⟩
theorem lk_L_96 : mm_LV RL 96 RX8 mX8_table 3 := ⟨wm_37_11, wm_37_12, wm_37_13, wm_1_5, wm_37_14, by decide +kernel⟩
theorem lk_L_97 : mm_LV RL 97 RX7 mX7_sky 1 := ⟨wm_37_15, wm_37_16, wm_37_17, wm_1_2, wm_37_18, by decide +kernel⟩
theorem lk_L_100 : mm_LV RL 100 RX8 mX8_sky 1 := ⟨wm_37_20, wm_37_21, wm_37_22, wm_1_5, wm_37_23, by decide +kernel⟩
theorem lk_L_101 : mm_LV RL 101 RX7 mX7_far 2 := ⟨wm_38_0, wm_38_1, wm_38_2, wm_1_2, wm_38_3, by decide +kernel⟩
theorem lk_L_104 : mm_LV RL 104 RX8 mX8_far 2 := ⟨wm_38_8, wm_38_9, wm_38_10, wm_1_5, wm_38_11, by decide +kernel⟩
theorem lk_L_105 : mm_LV RL 105 RX7 mX7_lean 2 := ⟨wm_38_13, wm_38_14, wm_38_15, wm_1_2, wm_38_16, by decide +kernel⟩
theorem lk_L_108 : mm_LV RL 108 RX8 mX8_lean 2 := ⟨wm_38_21, wm_38_22, wm_38_23, wm_1_5, wm_39_0, by decide +kernel⟩
theorem lk_L_109 : mm_LV RL 109 RX7 mX7_agreed 3 := ⟨wm_39_1, wm_39_2, wm_39_3, wm_1_2, wm_39_4, by decide +kernel⟩
theorem lk_L_112 : mm_LV RL 112 RX8 mX8_agreed 3 := ⟨wm_39_17, wm_39_18, wm_39_19, wm_1_5, wm_39_20, by decide +kernel⟩
theorem lk_L_113 : mm_LV RL 113 RX7 mX7_green 1 := ⟨wm_39_21, wm_39_22, wm_39_23, wm_1_2, wm_40_0, by decide +kernel⟩
theorem lk_L_116 : mm_LV RL 116 RX8 mX8_green 1 := ⟨wm_40_5, wm_40_6, wm_40_7, wm_1_5, wm_40_8, by decide +kernel⟩
theorem lk_L_117 : mm_LV RL 117 RX7 mX7_given 1 := ⟨wm_40_9, wm_40_10, wm_40_11, wm_1_2, wm_40_12, by decide +kernel⟩
theorem lk_L_120 : mm_LV RL 120 RX8 mX8_given 1 := ⟨wm_41_13, wm_41_14, wm_41_15, wm_1_5, wm_41_16, by decide +kernel⟩
theorem lk_L_121 : mm_LV RL 121 RX7 mX7_things 1 := ⟨wm_41_21, wm_41_22, wm_41_23, wm_1_2, wm_42_0, by decide +kernel⟩
theorem lk_L_124 : mm_LV RL 124 RX8 mX8_things 1 := ⟨wm_42_2, wm_42_3, wm_42_4, wm_1_5, wm_42_5, by decide +kernel⟩
theorem lk_L_125 : mm_LV RL 125 RX7 mX7_weight 2 := ⟨wm_42_6, wm_42_7, wm_42_8, wm_1_2, wm_42_9, by decide +kernel⟩
theorem lk_L_128 : mm_LV RL 128 RX8 mX8_weight 2 := ⟨wm_42_19, wm_42_20, wm_42_21, wm_1_5, wm_42_22, by decide +kernel⟩
theorem lk_L_129 : mm_LV RL 129 RX7 mX7_question 2 := ⟨wm_43_0, wm_43_1, wm_43_2, wm_1_2, wm_43_3, by decide +kernel⟩
theorem lk_L_132 : mm_LV RL 132 RX8 mX8_question 2 := ⟨wm_43_12, wm_43_13, wm_43_14, wm_1_5, wm_43_15, by decide +kernel⟩
theorem lk_L_133 : mm_LV RL 133 RX7 mX7_tree 2 := ⟨wm_43_16, wm_43_17, wm_43_18, wm_1_2, wm_43_19, by decide +kernel⟩
theorem lk_L_136 : mm_LV RL 136 RX8 mX8_tree 2 := ⟨wm_45_20, wm_45_21, wm_45_22, wm_1_5, wm_45_23, by decide +kernel⟩
theorem lk_L_137 : mm_LV RL 137 RX7 mX7_wrong 1 := ⟨wm_46_9, wm_46_10, wm_46_11, wm_1_2, wm_46_12, by decide +kernel⟩
theorem lk_L_140 : mm_LV RL 140 RX8 mX8_wrong 1 := ⟨wm_46_21, wm_46_22, wm_46_23, wm_1_5, wm_47_0, by decide +kernel⟩
set_option maxHeartbeats 2000000 in
theorem la_k0 (h : la_Fx p s m c z a7 a8 b L xs) (hL : L ≤ 2560) (hi : i + 5 ≤ L) {zs : zS} (h7 : zX zs M7) (h8 : zR zs M8) (hW : zW zs) (next : ∀ (zs : zS) (M7 M8 : mm_M), zX zs M7 → zR zs M8 → zW zs → la_J p e s m below meth c z a7 a8 b Q i 1094 [] M7 M8) : la_J p e s m below meth c z a7 a8 b Q i 168 [] M7 M8 := by
  refine la_ld7 h dL_law_168 ?_
  refine la_arg h hL (k := 1) (by omega) (by decide) dL_law_169 dL_law_170 dL_law_171 dL_law_172 dL_law_173 ?_
  refine la_arg h hL (k := 2) (by omega) (by decide) dL_law_174 dL_law_175 dL_law_176 dL_law_177 dL_law_178 ?_
  refine la_arg h hL (k := 3) (by omega) (by decide) dL_law_179 dL_law_180 dL_law_181 dL_law_182 dL_law_183 ?_
  refine la_arg h hL (k := 4) (by omega) (by decide) dL_law_184 dL_law_185 dL_law_186 dL_law_187 dL_law_188 ?_
  refine la_bool h dL_law_189 dL_law_192 dL_law_193 dL_law_196 ?_
  refine la_c7 (As := [.int (xs (i + 1)), .int (xs (i + 2)), .int (xs (i + 3)), .int (nI (if xs (i + 4) = 0 then 0 else 1))]) (rest := []) (j := mX7_picture) (r := (zq_picture zs (xs (i + 1)) (xs (i + 2)) (xs (i + 3)) (if xs (i + 4) = 0 then 0 else 1)).1) (zs := (zq_picture zs (xs (i + 1)) (xs (i + 2)) (xs (i + 3)) (if xs (i + 4) = 0 then 0 else 1)).2) h lk_L_13 rfl ⟨(Nat.le_of_ble_eq_true rfl), (Nat.le_of_ble_eq_true rfl)⟩ (Nat.le_of_ble_eq_true rfl) dL_law_197 (c_X7_picture la_FX h7 hW (xs (i + 1)) (xs (i + 2)) (xs (i + 3)) la_b1) (fun M7 h17 => ?_)
  refine la_ld8 h dL_law_200 ?_
  refine la_arg h hL (k := 1) (by omega) (by decide) dL_law_201 dL_law_202 dL_law_203 dL_law_204 dL_law_205 ?_
  refine la_arg h hL (k := 2) (by omega) (by decide) dL_law_206 dL_law_207 dL_law_208 dL_law_209 dL_law_210 ?_
  refine la_arg h hL (k := 3) (by omega) (by decide) dL_law_211 dL_law_212 dL_law_213 dL_law_214 dL_law_215 ?_
  refine la_arg h hL (k := 4) (by omega) (by decide) dL_law_216 dL_law_217 dL_law_218 dL_law_219 dL_law_220 ?_
  refine la_bool h dL_law_221 dL_law_224 dL_law_225 dL_law_228 ?_
  refine la_c8 (As := [.int (xs (i + 1)), .int (xs (i + 2)), .int (xs (i + 3)), .int (nI (if xs (i + 4) = 0 then 0 else 1))]) (rest := [.int (zq_picture zs (xs (i + 1)) (xs (i + 2)) (xs (i + 3)) (if xs (i + 4) = 0 then 0 else 1)).1]) (j := mX8_picture) (r := (zq_picture zs (xs (i + 1)) (xs (i + 2)) (xs (i + 3)) (if xs (i + 4) = 0 then 0 else 1)).1) (zs := (zq_picture zs (xs (i + 1)) (xs (i + 2)) (xs (i + 3)) (if xs (i + 4) = 0 then 0 else 1)).2) h lk_L_17 rfl ⟨(Nat.le_of_ble_eq_true rfl), (Nat.le_of_ble_eq_true rfl)⟩ (Nat.le_of_ble_eq_true rfl) dL_law_229 (c_X8_picture la_FR h8 hW (xs (i + 1)) (xs (i + 2)) (xs (i + 3)) la_b1) (fun M8 h18 => ?_)
  exact la_eq h dL_law_232 (by decide) (next _ _ _ h17 h18 (zW_picture hW _ _ _ la_b1))
set_option maxHeartbeats 2000000 in
theorem la_k1 (h : la_Fx p s m c z a7 a8 b L xs) (hL : L ≤ 2560) (hi : i + 5 ≤ L) {zs : zS} (h7 : zX zs M7) (h8 : zR zs M8) (hW : zW zs) (next : ∀ (zs : zS) (M7 M8 : mm_M), zX zs M7 → zR zs M8 → zW zs → la_J p e s m below meth c z a7 a8 b Q i 1094 [] M7 M8) : la_J p e s m below meth c z a7 a8 b Q i 237 [] M7 M8 := by
  refine la_ld7 h dL_law_237 ?_
  refine la_arg h hL (k := 1) (by omega) (by decide) dL_law_238 dL_law_239 dL_law_240 dL_law_241 dL_law_242 ?_
  refine la_c7 (As := [.int (xs (i + 1))]) (rest := []) (j := mX7_mirror) (r := (zq_mirror zs (xs (i + 1))).1) (zs := (zq_mirror zs (xs (i + 1))).2) h lk_L_18 rfl ⟨(Nat.le_of_ble_eq_true rfl), (Nat.le_of_ble_eq_true rfl)⟩ (Nat.le_of_ble_eq_true rfl) dL_law_243 (c_X7_mirror la_FX h7 hW (xs (i + 1))) (fun M7 h17 => ?_)
  refine la_ld8 h dL_law_246 ?_
  refine la_arg h hL (k := 1) (by omega) (by decide) dL_law_247 dL_law_248 dL_law_249 dL_law_250 dL_law_251 ?_
  refine la_c8 (As := [.int (xs (i + 1))]) (rest := [.int (zq_mirror zs (xs (i + 1))).1]) (j := mX8_mirror) (r := (zq_mirror zs (xs (i + 1))).1) (zs := (zq_mirror zs (xs (i + 1))).2) h lk_L_22 rfl ⟨(Nat.le_of_ble_eq_true rfl), (Nat.le_of_ble_eq_true rfl)⟩ (Nat.le_of_ble_eq_true rfl) dL_law_252 (c_X8_mirror la_FR h8 hW (xs (i + 1))) (fun M8 h18 => ?_)
  exact la_eq h dL_law_255 (by decide) (next _ _ _ h17 h18 (zW_mirror hW _))
set_option maxHeartbeats 2000000 in
theorem la_k2 (h : la_Fx p s m c z a7 a8 b L xs) (hL : L ≤ 2560) (hi : i + 5 ≤ L) {zs : zS} (h7 : zX zs M7) (h8 : zR zs M8) (hW : zW zs) (next : ∀ (zs : zS) (M7 M8 : mm_M), zX zs M7 → zR zs M8 → zW zs → la_J p e s m below meth c z a7 a8 b Q i 1094 [] M7 M8) : la_J p e s m below meth c z a7 a8 b Q i 260 [] M7 M8 := by
  refine la_ld7 h dL_law_260 ?_
  refine la_arg h hL (k := 1) (by omega) (by decide) dL_law_261 dL_law_262 dL_law_263 dL_law_264 dL_law_265 ?_
  refine la_c7 (As := [.int (xs (i + 1))]) (rest := []) (j := mX7_looker) (r := (zq_looker zs (xs (i + 1))).1) (zs := (zq_looker zs (xs (i + 1))).2) h lk_L_23 rfl ⟨(Nat.le_of_ble_eq_true rfl), (Nat.le_of_ble_eq_true rfl)⟩ (Nat.le_of_ble_eq_true rfl) dL_law_266 (c_X7_looker la_FX h7 hW (xs (i + 1))) (fun M7 h17 => ?_)
  refine la_ld8 h dL_law_269 ?_
  refine la_arg h hL (k := 1) (by omega) (by decide) dL_law_270 dL_law_271 dL_law_272 dL_law_273 dL_law_274 ?_
  refine la_c8 (As := [.int (xs (i + 1))]) (rest := [.int (zq_looker zs (xs (i + 1))).1]) (j := mX8_looker) (r := (zq_looker zs (xs (i + 1))).1) (zs := (zq_looker zs (xs (i + 1))).2) h lk_L_26 rfl ⟨(Nat.le_of_ble_eq_true rfl), (Nat.le_of_ble_eq_true rfl)⟩ (Nat.le_of_ble_eq_true rfl) dL_law_275 (c_X8_looker la_FR h8 hW (xs (i + 1))) (fun M8 h18 => ?_)
  exact la_eq h dL_law_278 (by decide) (next _ _ _ h17 h18 (zW_looker hW _))
set_option maxHeartbeats 2000000 in
theorem la_k3 (h : la_Fx p s m c z a7 a8 b L xs) (hL : L ≤ 2560) (hi : i + 5 ≤ L) {zs : zS} (h7 : zX zs M7) (h8 : zR zs M8) (hW : zW zs) (next : ∀ (zs : zS) (M7 M8 : mm_M), zX zs M7 → zR zs M8 → zW zs → la_J p e s m below meth c z a7 a8 b Q i 1094 [] M7 M8) : la_J p e s m below meth c z a7 a8 b Q i 283 [] M7 M8 := by
  refine la_ld7 h dL_law_283 ?_
  refine la_arg h hL (k := 1) (by omega) (by decide) dL_law_284 dL_law_285 dL_law_286 dL_law_287 dL_law_288 ?_
  refine la_arg h hL (k := 2) (by omega) (by decide) dL_law_289 dL_law_290 dL_law_291 dL_law_292 dL_law_293 ?_
  refine la_i2l h dL_law_294 ?_
  refine la_shl h dL_law_295 dL_law_297 ?_
  refine la_arg h hL (k := 3) (by omega) (by decide) dL_law_298 dL_law_299 dL_law_300 dL_law_301 dL_law_302 ?_
  refine la_i2l h dL_law_303 ?_
  refine la_msk h dL_law_304 dL_law_307 dL_law_308 ?_
  refine la_c7 (As := [.int (xs (i + 1)), .long ((xs (i + 2)).toInt64 <<< ((nI 32).toInt64 &&& 63) ||| ((xs (i + 3)).toInt64 &&& 4294967295))]) (rest := []) (j := mX7_feed) (r := (zq_feed zs (xs (i + 1)) ((xs (i + 2)).toInt64 <<< ((nI 32).toInt64 &&& 63) ||| ((xs (i + 3)).toInt64 &&& 4294967295))).1) (zs := (zq_feed zs (xs (i + 1)) ((xs (i + 2)).toInt64 <<< ((nI 32).toInt64 &&& 63) ||| ((xs (i + 3)).toInt64 &&& 4294967295))).2) h lk_L_29 rfl ⟨(Nat.le_of_ble_eq_true rfl), (Nat.le_of_ble_eq_true rfl)⟩ (Nat.le_of_ble_eq_true rfl) dL_law_309 (c_X7_feed la_FX h7 hW (xs (i + 1)) ((xs (i + 2)).toInt64 <<< ((nI 32).toInt64 &&& 63) ||| ((xs (i + 3)).toInt64 &&& 4294967295))) (fun M7 h17 => ?_)
  refine la_ld8 h dL_law_312 ?_
  refine la_arg h hL (k := 1) (by omega) (by decide) dL_law_313 dL_law_314 dL_law_315 dL_law_316 dL_law_317 ?_
  refine la_arg h hL (k := 2) (by omega) (by decide) dL_law_318 dL_law_319 dL_law_320 dL_law_321 dL_law_322 ?_
  refine la_i2l h dL_law_323 ?_
  refine la_shl h dL_law_324 dL_law_326 ?_
  refine la_arg h hL (k := 3) (by omega) (by decide) dL_law_327 dL_law_328 dL_law_329 dL_law_330 dL_law_331 ?_
  refine la_i2l h dL_law_332 ?_
  refine la_msk h dL_law_333 dL_law_336 dL_law_337 ?_
  refine la_c8 (As := [.int (xs (i + 1)), .long ((xs (i + 2)).toInt64 <<< ((nI 32).toInt64 &&& 63) ||| ((xs (i + 3)).toInt64 &&& 4294967295))]) (rest := [.int (zq_feed zs (xs (i + 1)) ((xs (i + 2)).toInt64 <<< ((nI 32).toInt64 &&& 63) ||| ((xs (i + 3)).toInt64 &&& 4294967295))).1]) (j := mX8_feed) (r := (zq_feed zs (xs (i + 1)) ((xs (i + 2)).toInt64 <<< ((nI 32).toInt64 &&& 63) ||| ((xs (i + 3)).toInt64 &&& 4294967295))).1) (zs := (zq_feed zs (xs (i + 1)) ((xs (i + 2)).toInt64 <<< ((nI 32).toInt64 &&& 63) ||| ((xs (i + 3)).toInt64 &&& 4294967295))).2) h lk_L_33 rfl ⟨(Nat.le_of_ble_eq_true rfl), (Nat.le_of_ble_eq_true rfl)⟩ (Nat.le_of_ble_eq_true rfl) dL_law_338 (c_X8_feed la_FR h8 hW (xs (i + 1)) ((xs (i + 2)).toInt64 <<< ((nI 32).toInt64 &&& 63) ||| ((xs (i + 3)).toInt64 &&& 4294967295))) (fun M8 h18 => ?_)
  exact la_eq h dL_law_341 (by decide) (next _ _ _ h17 h18 (zW_feed hW _ _))
set_option maxHeartbeats 2000000 in
theorem la_k4 (h : la_Fx p s m c z a7 a8 b L xs) (hL : L ≤ 2560) (hi : i + 5 ≤ L) {zs : zS} (h7 : zX zs M7) (h8 : zR zs M8) (hW : zW zs) (next : ∀ (zs : zS) (M7 M8 : mm_M), zX zs M7 → zR zs M8 → zW zs → la_J p e s m below meth c z a7 a8 b Q i 1094 [] M7 M8) : la_J p e s m below meth c z a7 a8 b Q i 346 [] M7 M8 := by
  refine la_ld7 h dL_law_346 ?_
  refine la_c7 (As := []) (rest := []) (j := mX7_read) (r := (zq_read zs ).1) (zs := (zq_read zs ).2) h lk_L_34 rfl ⟨(Nat.le_of_ble_eq_true rfl), (Nat.le_of_ble_eq_true rfl)⟩ (Nat.le_of_ble_eq_true rfl) dL_law_347 (c_X7_read la_FX h7 hW ) (fun M7 h17 => ?_)
  refine la_ld8 h dL_law_350 ?_
  refine la_c8 (As := []) (rest := [.int (zq_read zs ).1]) (j := mX8_read) (r := (zq_read zs ).1) (zs := (zq_read zs ).2) h lk_L_38 rfl ⟨(Nat.le_of_ble_eq_true rfl), (Nat.le_of_ble_eq_true rfl)⟩ (Nat.le_of_ble_eq_true rfl) dL_law_351 (c_X8_read la_FR h8 hW ) (fun M8 h18 => ?_)
  exact la_eq h dL_law_354 (by decide) (next _ _ _ h17 h18 (zW_read hW))
theorem zWc_fault {s : zS} (h : zW s)  : zW (zq_fault s ).2 := by
  unfold zq_fault
  repeat' split
  all_goals exact h
set_option maxHeartbeats 2000000 in
theorem la_k5 (h : la_Fx p s m c z a7 a8 b L xs) (hL : L ≤ 2560) (hi : i + 5 ≤ L) {zs : zS} (h7 : zX zs M7) (h8 : zR zs M8) (hW : zW zs) (next : ∀ (zs : zS) (M7 M8 : mm_M), zX zs M7 → zR zs M8 → zW zs → la_J p e s m below meth c z a7 a8 b Q i 1094 [] M7 M8) : la_J p e s m below meth c z a7 a8 b Q i 359 [] M7 M8 := by
  refine la_ld7 h dL_law_359 ?_
  refine la_c7 (As := []) (rest := []) (j := mX7_fault) (r := (zq_fault zs ).1) (zs := (zq_fault zs ).2) h lk_L_39 rfl ⟨(Nat.le_of_ble_eq_true rfl), (Nat.le_of_ble_eq_true rfl)⟩ (Nat.le_of_ble_eq_true rfl) dL_law_360 (c_X7_fault la_FX h7 hW ) (fun M7 h17 => ?_)
  refine la_ld8 h dL_law_363 ?_
  refine la_c8 (As := []) (rest := [.int (zq_fault zs ).1]) (j := mX8_fault) (r := (zq_fault zs ).1) (zs := (zq_fault zs ).2) h lk_L_42 rfl ⟨(Nat.le_of_ble_eq_true rfl), (Nat.le_of_ble_eq_true rfl)⟩ (Nat.le_of_ble_eq_true rfl) dL_law_364 (c_X8_fault la_FR h8 hW ) (fun M8 h18 => ?_)
  exact la_eq h dL_law_367 (by decide) (next _ _ _ h17 h18 (zWc_fault hW))
theorem zWc_law {s : zS} (h : zW s) (x0 : Int32) : zW (zq_law s x0).2 := by
  unfold zq_law
  repeat' split
  all_goals exact h
set_option maxHeartbeats 2000000 in
theorem la_k6 (h : la_Fx p s m c z a7 a8 b L xs) (hL : L ≤ 2560) (hi : i + 5 ≤ L) {zs : zS} (h7 : zX zs M7) (h8 : zR zs M8) (hW : zW zs) (next : ∀ (zs : zS) (M7 M8 : mm_M), zX zs M7 → zR zs M8 → zW zs → la_J p e s m below meth c z a7 a8 b Q i 1094 [] M7 M8) : la_J p e s m below meth c z a7 a8 b Q i 372 [] M7 M8 := by
  refine la_ld7 h dL_law_372 ?_
  refine la_arg h hL (k := 1) (by omega) (by decide) dL_law_373 dL_law_374 dL_law_375 dL_law_376 dL_law_377 ?_
  refine la_c7 (As := [.int (xs (i + 1))]) (rest := []) (j := mX7_law) (r := (zq_law zs (xs (i + 1))).1) (zs := (zq_law zs (xs (i + 1))).2) h lk_L_43 rfl ⟨(Nat.le_of_ble_eq_true rfl), (Nat.le_of_ble_eq_true rfl)⟩ (Nat.le_of_ble_eq_true rfl) dL_law_378 (c_X7_law la_FX h7 hW (xs (i + 1))) (fun M7 h17 => ?_)
  refine la_ld8 h dL_law_381 ?_
  refine la_arg h hL (k := 1) (by omega) (by decide) dL_law_382 dL_law_383 dL_law_384 dL_law_385 dL_law_386 ?_
  refine la_c8 (As := [.int (xs (i + 1))]) (rest := [.int (zq_law zs (xs (i + 1))).1]) (j := mX8_law) (r := (zq_law zs (xs (i + 1))).1) (zs := (zq_law zs (xs (i + 1))).2) h lk_L_46 rfl ⟨(Nat.le_of_ble_eq_true rfl), (Nat.le_of_ble_eq_true rfl)⟩ (Nat.le_of_ble_eq_true rfl) dL_law_387 (c_X8_law la_FR h8 hW (xs (i + 1))) (fun M8 h18 => ?_)
  exact la_eq h dL_law_390 (by decide) (next _ _ _ h17 h18 (zWc_law hW _))
theorem zWc_count {s : zS} (h : zW s) (x0 : Int32) : zW (zq_count s x0).2 := by
  unfold zq_count
  repeat' split
  all_goals exact h
set_option maxHeartbeats 2000000 in
theorem la_k7 (h : la_Fx p s m c z a7 a8 b L xs) (hL : L ≤ 2560) (hi : i + 5 ≤ L) {zs : zS} (h7 : zX zs M7) (h8 : zR zs M8) (hW : zW zs) (next : ∀ (zs : zS) (M7 M8 : mm_M), zX zs M7 → zR zs M8 → zW zs → la_J p e s m below meth c z a7 a8 b Q i 1094 [] M7 M8) : la_J p e s m below meth c z a7 a8 b Q i 395 [] M7 M8 := by
  refine la_ld7 h dL_law_395 ?_
  refine la_arg h hL (k := 1) (by omega) (by decide) dL_law_396 dL_law_397 dL_law_398 dL_law_399 dL_law_400 ?_
  refine la_c7 (As := [.int (xs (i + 1))]) (rest := []) (j := mX7_count) (r := (zq_count zs (xs (i + 1))).1) (zs := (zq_count zs (xs (i + 1))).2) h lk_L_47 rfl ⟨(Nat.le_of_ble_eq_true rfl), (Nat.le_of_ble_eq_true rfl)⟩ (Nat.le_of_ble_eq_true rfl) dL_law_401 (c_X7_count la_FX h7 hW (xs (i + 1))) (fun M7 h17 => ?_)
  refine la_ld8 h dL_law_404 ?_
  refine la_arg h hL (k := 1) (by omega) (by decide) dL_law_405 dL_law_406 dL_law_407 dL_law_408 dL_law_409 ?_
  refine la_c8 (As := [.int (xs (i + 1))]) (rest := [.int (zq_count zs (xs (i + 1))).1]) (j := mX8_count) (r := (zq_count zs (xs (i + 1))).1) (zs := (zq_count zs (xs (i + 1))).2) h lk_L_50 rfl ⟨(Nat.le_of_ble_eq_true rfl), (Nat.le_of_ble_eq_true rfl)⟩ (Nat.le_of_ble_eq_true rfl) dL_law_410 (c_X8_count la_FR h8 hW (xs (i + 1))) (fun M8 h18 => ?_)
  exact la_eq h dL_law_413 (by decide) (next _ _ _ h17 h18 (zWc_count hW _))
theorem zWc_told {s : zS} (h : zW s) (x0 x1 : Int32) : zW (zq_told s x0 x1).2 := by
  unfold zq_told
  repeat' split
  all_goals exact h
set_option maxHeartbeats 2000000 in
theorem la_k8 (h : la_Fx p s m c z a7 a8 b L xs) (hL : L ≤ 2560) (hi : i + 5 ≤ L) {zs : zS} (h7 : zX zs M7) (h8 : zR zs M8) (hW : zW zs) (next : ∀ (zs : zS) (M7 M8 : mm_M), zX zs M7 → zR zs M8 → zW zs → la_J p e s m below meth c z a7 a8 b Q i 1094 [] M7 M8) : la_J p e s m below meth c z a7 a8 b Q i 418 [] M7 M8 := by
  refine la_ld7 h dL_law_418 ?_
  refine la_arg h hL (k := 1) (by omega) (by decide) dL_law_419 dL_law_420 dL_law_421 dL_law_422 dL_law_423 ?_
  refine la_arg h hL (k := 2) (by omega) (by decide) dL_law_424 dL_law_425 dL_law_426 dL_law_427 dL_law_428 ?_
  refine la_c7 (As := [.int (xs (i + 1)), .int (xs (i + 2))]) (rest := []) (j := mX7_told) (r := (zq_told zs (xs (i + 1)) (xs (i + 2))).1) (zs := (zq_told zs (xs (i + 1)) (xs (i + 2))).2) h lk_L_51 rfl ⟨(Nat.le_of_ble_eq_true rfl), (Nat.le_of_ble_eq_true rfl)⟩ (Nat.le_of_ble_eq_true rfl) dL_law_429 (c_X7_told la_FX h7 hW (xs (i + 1)) (xs (i + 2))) (fun M7 h17 => ?_)
  refine la_ld8 h dL_law_432 ?_
  refine la_arg h hL (k := 1) (by omega) (by decide) dL_law_433 dL_law_434 dL_law_435 dL_law_436 dL_law_437 ?_
  refine la_arg h hL (k := 2) (by omega) (by decide) dL_law_438 dL_law_439 dL_law_440 dL_law_441 dL_law_442 ?_
  refine la_c8 (As := [.int (xs (i + 1)), .int (xs (i + 2))]) (rest := [.int (zq_told zs (xs (i + 1)) (xs (i + 2))).1]) (j := mX8_told) (r := (zq_told zs (xs (i + 1)) (xs (i + 2))).1) (zs := (zq_told zs (xs (i + 1)) (xs (i + 2))).2) h lk_L_55 rfl ⟨(Nat.le_of_ble_eq_true rfl), (Nat.le_of_ble_eq_true rfl)⟩ (Nat.le_of_ble_eq_true rfl) dL_law_443 (c_X8_told la_FR h8 hW (xs (i + 1)) (xs (i + 2))) (fun M8 h18 => ?_)
  exact la_eq h dL_law_446 (by decide) (next _ _ _ h17 h18 (zWc_told hW _ _))
set_option maxHeartbeats 2000000 in
theorem la_k9 (h : la_Fx p s m c z a7 a8 b L xs) (hL : L ≤ 2560) (hi : i + 5 ≤ L) {zs : zS} (h7 : zX zs M7) (h8 : zR zs M8) (hW : zW zs) (next : ∀ (zs : zS) (M7 M8 : mm_M), zX zs M7 → zR zs M8 → zW zs → la_J p e s m below meth c z a7 a8 b Q i 1094 [] M7 M8) : la_J p e s m below meth c z a7 a8 b Q i 451 [] M7 M8 := by
  refine la_ld7 h dL_law_451 ?_
  refine la_arg h hL (k := 1) (by omega) (by decide) dL_law_452 dL_law_453 dL_law_454 dL_law_455 dL_law_456 ?_
  refine la_c7 (As := [.int (xs (i + 1))]) (rest := []) (j := mX7_seed) (r := (zq_seed zs (xs (i + 1))).1) (zs := (zq_seed zs (xs (i + 1))).2) h lk_L_56 rfl ⟨(Nat.le_of_ble_eq_true rfl), (Nat.le_of_ble_eq_true rfl)⟩ (Nat.le_of_ble_eq_true rfl) dL_law_457 (c_X7_seed la_FX h7 hW (xs (i + 1))) (fun M7 h17 => ?_)
  refine la_ld8 h dL_law_460 ?_
  refine la_arg h hL (k := 1) (by omega) (by decide) dL_law_461 dL_law_462 dL_law_463 dL_law_464 dL_law_465 ?_
  refine la_c8 (As := [.int (xs (i + 1))]) (rest := [.int (zq_seed zs (xs (i + 1))).1]) (j := mX8_seed) (r := (zq_seed zs (xs (i + 1))).1) (zs := (zq_seed zs (xs (i + 1))).2) h lk_L_59 rfl ⟨(Nat.le_of_ble_eq_true rfl), (Nat.le_of_ble_eq_true rfl)⟩ (Nat.le_of_ble_eq_true rfl) dL_law_466 (c_X8_seed la_FR h8 hW (xs (i + 1))) (fun M8 h18 => ?_)
  exact la_eq h dL_law_469 (by decide) (next _ _ _ h17 h18 (zW_seed hW _))
set_option maxHeartbeats 2000000 in
theorem la_k10 (h : la_Fx p s m c z a7 a8 b L xs) (hL : L ≤ 2560) (hi : i + 5 ≤ L) {zs : zS} (h7 : zX zs M7) (h8 : zR zs M8) (hW : zW zs) (next : ∀ (zs : zS) (M7 M8 : mm_M), zX zs M7 → zR zs M8 → zW zs → la_J p e s m below meth c z a7 a8 b Q i 1094 [] M7 M8) : la_J p e s m below meth c z a7 a8 b Q i 474 [] M7 M8 := by
  refine la_ld7 h dL_law_474 ?_
  refine la_arg h hL (k := 1) (by omega) (by decide) dL_law_475 dL_law_476 dL_law_477 dL_law_478 dL_law_479 ?_
  refine la_arg h hL (k := 2) (by omega) (by decide) dL_law_480 dL_law_481 dL_law_482 dL_law_483 dL_law_484 ?_
  refine la_arg h hL (k := 3) (by omega) (by decide) dL_law_485 dL_law_486 dL_law_487 dL_law_488 dL_law_489 ?_
  refine la_c7 (As := [.int (xs (i + 1)), .int (xs (i + 2)), .int (xs (i + 3))]) (rest := []) (j := mX7_look) (r := (zq_look zs (xs (i + 1)) (xs (i + 2)) (xs (i + 3))).1) (zs := (zq_look zs (xs (i + 1)) (xs (i + 2)) (xs (i + 3))).2) h lk_L_60 rfl ⟨(Nat.le_of_ble_eq_true rfl), (Nat.le_of_ble_eq_true rfl)⟩ (Nat.le_of_ble_eq_true rfl) dL_law_490 (c_X7_look la_FX h7 hW (xs (i + 1)) (xs (i + 2)) (xs (i + 3))) (fun M7 h17 => ?_)
  refine la_ld8 h dL_law_493 ?_
  refine la_arg h hL (k := 1) (by omega) (by decide) dL_law_494 dL_law_495 dL_law_496 dL_law_497 dL_law_498 ?_
  refine la_arg h hL (k := 2) (by omega) (by decide) dL_law_499 dL_law_500 dL_law_501 dL_law_502 dL_law_503 ?_
  refine la_arg h hL (k := 3) (by omega) (by decide) dL_law_504 dL_law_505 dL_law_506 dL_law_507 dL_law_508 ?_
  refine la_c8 (As := [.int (xs (i + 1)), .int (xs (i + 2)), .int (xs (i + 3))]) (rest := [.int (zq_look zs (xs (i + 1)) (xs (i + 2)) (xs (i + 3))).1]) (j := mX8_look) (r := (zq_look zs (xs (i + 1)) (xs (i + 2)) (xs (i + 3))).1) (zs := (zq_look zs (xs (i + 1)) (xs (i + 2)) (xs (i + 3))).2) h lk_L_64 rfl ⟨(Nat.le_of_ble_eq_true rfl), (Nat.le_of_ble_eq_true rfl)⟩ (Nat.le_of_ble_eq_true rfl) dL_law_509 (c_X8_look la_FR h8 hW (xs (i + 1)) (xs (i + 2)) (xs (i + 3))) (fun M8 h18 => ?_)
  exact la_eq h dL_law_512 (by decide) (next _ _ _ h17 h18 (zW_lookq hW _ _ _))
set_option maxHeartbeats 2000000 in
theorem la_k11 (h : la_Fx p s m c z a7 a8 b L xs) (hL : L ≤ 2560) (hi : i + 5 ≤ L) {zs : zS} (h7 : zX zs M7) (h8 : zR zs M8) (hW : zW zs) (next : ∀ (zs : zS) (M7 M8 : mm_M), zX zs M7 → zR zs M8 → zW zs → la_J p e s m below meth c z a7 a8 b Q i 1094 [] M7 M8) : la_J p e s m below meth c z a7 a8 b Q i 517 [] M7 M8 := by
  refine la_ld7 h dL_law_517 ?_
  refine la_arg h hL (k := 1) (by omega) (by decide) dL_law_518 dL_law_519 dL_law_520 dL_law_521 dL_law_522 ?_
  refine la_arg h hL (k := 2) (by omega) (by decide) dL_law_523 dL_law_524 dL_law_525 dL_law_526 dL_law_527 ?_
  refine la_c7 (As := [.int (xs (i + 1)), .int (xs (i + 2))]) (rest := []) (j := mX7_says) (r := (zq_says zs (xs (i + 1)) (xs (i + 2))).1) (zs := (zq_says zs (xs (i + 1)) (xs (i + 2))).2) h lk_L_65 rfl ⟨(Nat.le_of_ble_eq_true rfl), (Nat.le_of_ble_eq_true rfl)⟩ (Nat.le_of_ble_eq_true rfl) dL_law_528 (c_X7_says la_FX h7 hW (xs (i + 1)) (xs (i + 2))) (fun M7 h17 => ?_)
  refine la_ld8 h dL_law_531 ?_
  refine la_arg h hL (k := 1) (by omega) (by decide) dL_law_532 dL_law_533 dL_law_534 dL_law_535 dL_law_536 ?_
  refine la_arg h hL (k := 2) (by omega) (by decide) dL_law_537 dL_law_538 dL_law_539 dL_law_540 dL_law_541 ?_
  refine la_c8 (As := [.int (xs (i + 1)), .int (xs (i + 2))]) (rest := [.int (zq_says zs (xs (i + 1)) (xs (i + 2))).1]) (j := mX8_says) (r := (zq_says zs (xs (i + 1)) (xs (i + 2))).1) (zs := (zq_says zs (xs (i + 1)) (xs (i + 2))).2) h lk_L_68 rfl ⟨(Nat.le_of_ble_eq_true rfl), (Nat.le_of_ble_eq_true rfl)⟩ (Nat.le_of_ble_eq_true rfl) dL_law_542 (c_X8_says la_FR h8 hW (xs (i + 1)) (xs (i + 2))) (fun M8 h18 => ?_)
  exact la_eq h dL_law_545 (by decide) (next _ _ _ h17 h18 (zW_says hW _ _))
theorem zWc_about {s : zS} (h : zW s) (x0 x1 : Int32) : zW (zq_about s x0 x1).2 := by
  unfold zq_about
  repeat' split
  all_goals exact h
set_option maxHeartbeats 2000000 in
theorem la_k12 (h : la_Fx p s m c z a7 a8 b L xs) (hL : L ≤ 2560) (hi : i + 5 ≤ L) {zs : zS} (h7 : zX zs M7) (h8 : zR zs M8) (hW : zW zs) (next : ∀ (zs : zS) (M7 M8 : mm_M), zX zs M7 → zR zs M8 → zW zs → la_J p e s m below meth c z a7 a8 b Q i 1094 [] M7 M8) : la_J p e s m below meth c z a7 a8 b Q i 550 [] M7 M8 := by
  refine la_ld7 h dL_law_550 ?_
  refine la_arg h hL (k := 1) (by omega) (by decide) dL_law_551 dL_law_552 dL_law_553 dL_law_554 dL_law_555 ?_
  refine la_arg h hL (k := 2) (by omega) (by decide) dL_law_556 dL_law_557 dL_law_558 dL_law_559 dL_law_560 ?_
  refine la_c7 (As := [.int (xs (i + 1)), .int (xs (i + 2))]) (rest := []) (j := mX7_about) (r := (zq_about zs (xs (i + 1)) (xs (i + 2))).1) (zs := (zq_about zs (xs (i + 1)) (xs (i + 2))).2) h lk_L_69 rfl ⟨(Nat.le_of_ble_eq_true rfl), (Nat.le_of_ble_eq_true rfl)⟩ (Nat.le_of_ble_eq_true rfl) dL_law_561 (c_X7_about la_FX h7 hW (xs (i + 1)) (xs (i + 2))) (fun M7 h17 => ?_)
  refine la_ld8 h dL_law_564 ?_
  refine la_arg h hL (k := 1) (by omega) (by decide) dL_law_565 dL_law_566 dL_law_567 dL_law_568 dL_law_569 ?_
  refine la_arg h hL (k := 2) (by omega) (by decide) dL_law_570 dL_law_571 dL_law_572 dL_law_573 dL_law_574 ?_
  refine la_c8 (As := [.int (xs (i + 1)), .int (xs (i + 2))]) (rest := [.int (zq_about zs (xs (i + 1)) (xs (i + 2))).1]) (j := mX8_about) (r := (zq_about zs (xs (i + 1)) (xs (i + 2))).1) (zs := (zq_about zs (xs (i + 1)) (xs (i + 2))).2) h lk_L_72 rfl ⟨(Nat.le_of_ble_eq_true rfl), (Nat.le_of_ble_eq_true rfl)⟩ (Nat.le_of_ble_eq_true rfl) dL_law_575 (c_X8_about la_FR h8 hW (xs (i + 1)) (xs (i + 2))) (fun M8 h18 => ?_)
  exact la_eq h dL_law_578 (by decide) (next _ _ _ h17 h18 (zWc_about hW _ _))
theorem zWc_next {s : zS} (h : zW s) (x0 x1 : Int32) : zW (zq_next s x0 x1).2 := by
  unfold zq_next
  repeat' split
  all_goals exact h
set_option maxHeartbeats 2000000 in
theorem la_k13 (h : la_Fx p s m c z a7 a8 b L xs) (hL : L ≤ 2560) (hi : i + 5 ≤ L) {zs : zS} (h7 : zX zs M7) (h8 : zR zs M8) (hW : zW zs) (next : ∀ (zs : zS) (M7 M8 : mm_M), zX zs M7 → zR zs M8 → zW zs → la_J p e s m below meth c z a7 a8 b Q i 1094 [] M7 M8) : la_J p e s m below meth c z a7 a8 b Q i 583 [] M7 M8 := by
  refine la_ld7 h dL_law_583 ?_
  refine la_arg h hL (k := 1) (by omega) (by decide) dL_law_584 dL_law_585 dL_law_586 dL_law_587 dL_law_588 ?_
  refine la_arg h hL (k := 2) (by omega) (by decide) dL_law_589 dL_law_590 dL_law_591 dL_law_592 dL_law_593 ?_
  refine la_c7 (As := [.int (xs (i + 1)), .int (xs (i + 2))]) (rest := []) (j := mX7_next) (r := (zq_next zs (xs (i + 1)) (xs (i + 2))).1) (zs := (zq_next zs (xs (i + 1)) (xs (i + 2))).2) h lk_L_73 rfl ⟨(Nat.le_of_ble_eq_true rfl), (Nat.le_of_ble_eq_true rfl)⟩ (Nat.le_of_ble_eq_true rfl) dL_law_594 (c_X7_next la_FX h7 hW (xs (i + 1)) (xs (i + 2))) (fun M7 h17 => ?_)
  refine la_ld8 h dL_law_597 ?_
  refine la_arg h hL (k := 1) (by omega) (by decide) dL_law_598 dL_law_599 dL_law_600 dL_law_601 dL_law_602 ?_
  refine la_arg h hL (k := 2) (by omega) (by decide) dL_law_603 dL_law_604 dL_law_605 dL_law_606 dL_law_607 ?_
  refine la_c8 (As := [.int (xs (i + 1)), .int (xs (i + 2))]) (rest := [.int (zq_next zs (xs (i + 1)) (xs (i + 2))).1]) (j := mX8_next) (r := (zq_next zs (xs (i + 1)) (xs (i + 2))).1) (zs := (zq_next zs (xs (i + 1)) (xs (i + 2))).2) h lk_L_76 rfl ⟨(Nat.le_of_ble_eq_true rfl), (Nat.le_of_ble_eq_true rfl)⟩ (Nat.le_of_ble_eq_true rfl) dL_law_608 (c_X8_next la_FR h8 hW (xs (i + 1)) (xs (i + 2))) (fun M8 h18 => ?_)
  exact la_eq h dL_law_611 (by decide) (next _ _ _ h17 h18 (zWc_next hW _ _))
set_option maxHeartbeats 2000000 in
theorem la_k14 (h : la_Fx p s m c z a7 a8 b L xs) (hL : L ≤ 2560) (hi : i + 5 ≤ L) {zs : zS} (h7 : zX zs M7) (h8 : zR zs M8) (hW : zW zs) (next : ∀ (zs : zS) (M7 M8 : mm_M), zX zs M7 → zR zs M8 → zW zs → la_J p e s m below meth c z a7 a8 b Q i 1094 [] M7 M8) : la_J p e s m below meth c z a7 a8 b Q i 616 [] M7 M8 := by
  refine la_ld7 h dL_law_616 ?_
  refine la_arg h hL (k := 1) (by omega) (by decide) dL_law_617 dL_law_618 dL_law_619 dL_law_620 dL_law_621 ?_
  refine la_arg h hL (k := 2) (by omega) (by decide) dL_law_622 dL_law_623 dL_law_624 dL_law_625 dL_law_626 ?_
  refine la_arg h hL (k := 3) (by omega) (by decide) dL_law_627 dL_law_628 dL_law_629 dL_law_630 dL_law_631 ?_
  refine la_c7 (As := [.int (xs (i + 1)), .int (xs (i + 2)), .int (xs (i + 3))]) (rest := []) (j := mX7_evening) (r := (zq_evening zs (xs (i + 1)) (xs (i + 2)) (xs (i + 3))).1) (zs := (zq_evening zs (xs (i + 1)) (xs (i + 2)) (xs (i + 3))).2) h lk_L_77 rfl ⟨(Nat.le_of_ble_eq_true rfl), (Nat.le_of_ble_eq_true rfl)⟩ (Nat.le_of_ble_eq_true rfl) dL_law_632 (c_X7_evening la_FX h7 hW (xs (i + 1)) (xs (i + 2)) (xs (i + 3))) (fun M7 h17 => ?_)
  refine la_ld8 h dL_law_635 ?_
  refine la_arg h hL (k := 1) (by omega) (by decide) dL_law_636 dL_law_637 dL_law_638 dL_law_639 dL_law_640 ?_
  refine la_arg h hL (k := 2) (by omega) (by decide) dL_law_641 dL_law_642 dL_law_643 dL_law_644 dL_law_645 ?_
  refine la_arg h hL (k := 3) (by omega) (by decide) dL_law_646 dL_law_647 dL_law_648 dL_law_649 dL_law_650 ?_
  refine la_c8 (As := [.int (xs (i + 1)), .int (xs (i + 2)), .int (xs (i + 3))]) (rest := [.int (zq_evening zs (xs (i + 1)) (xs (i + 2)) (xs (i + 3))).1]) (j := mX8_evening) (r := (zq_evening zs (xs (i + 1)) (xs (i + 2)) (xs (i + 3))).1) (zs := (zq_evening zs (xs (i + 1)) (xs (i + 2)) (xs (i + 3))).2) h lk_L_80 rfl ⟨(Nat.le_of_ble_eq_true rfl), (Nat.le_of_ble_eq_true rfl)⟩ (Nat.le_of_ble_eq_true rfl) dL_law_651 (c_X8_evening la_FR h8 hW (xs (i + 1)) (xs (i + 2)) (xs (i + 3))) (fun M8 h18 => ?_)
  exact la_eq h dL_law_654 (by decide) (next _ _ _ h17 h18 (zW_evening hW _ _ _))
theorem zWc_stays {s : zS} (h : zW s) (x0 : Int32) : zW (zq_stays s x0).2 := by
  unfold zq_stays
  repeat' split
  all_goals exact h
set_option maxHeartbeats 2000000 in
theorem la_k15 (h : la_Fx p s m c z a7 a8 b L xs) (hL : L ≤ 2560) (hi : i + 5 ≤ L) {zs : zS} (h7 : zX zs M7) (h8 : zR zs M8) (hW : zW zs) (next : ∀ (zs : zS) (M7 M8 : mm_M), zX zs M7 → zR zs M8 → zW zs → la_J p e s m below meth c z a7 a8 b Q i 1094 [] M7 M8) : la_J p e s m below meth c z a7 a8 b Q i 659 [] M7 M8 := by
  refine la_ld7 h dL_law_659 ?_
  refine la_arg h hL (k := 1) (by omega) (by decide) dL_law_660 dL_law_661 dL_law_662 dL_law_663 dL_law_664 ?_
  refine la_c7 (As := [.int (xs (i + 1))]) (rest := []) (j := mX7_stays) (r := (zq_stays zs (xs (i + 1))).1) (zs := (zq_stays zs (xs (i + 1))).2) h lk_L_81 rfl ⟨(Nat.le_of_ble_eq_true rfl), (Nat.le_of_ble_eq_true rfl)⟩ (Nat.le_of_ble_eq_true rfl) dL_law_665 (c_X7_stays la_FX h7 hW (xs (i + 1))) (fun M7 h17 => ?_)
  refine la_ld8 h dL_law_668 ?_
  refine la_arg h hL (k := 1) (by omega) (by decide) dL_law_669 dL_law_670 dL_law_671 dL_law_672 dL_law_673 ?_
  refine la_c8 (As := [.int (xs (i + 1))]) (rest := [.int (zq_stays zs (xs (i + 1))).1]) (j := mX8_stays) (r := (zq_stays zs (xs (i + 1))).1) (zs := (zq_stays zs (xs (i + 1))).2) h lk_L_84 rfl ⟨(Nat.le_of_ble_eq_true rfl), (Nat.le_of_ble_eq_true rfl)⟩ (Nat.le_of_ble_eq_true rfl) dL_law_674 (c_X8_stays la_FR h8 hW (xs (i + 1))) (fun M8 h18 => ?_)
  exact la_eq h dL_law_677 (by decide) (next _ _ _ h17 h18 (zWc_stays hW _))
set_option maxHeartbeats 2000000 in
theorem la_k16 (h : la_Fx p s m c z a7 a8 b L xs) (hL : L ≤ 2560) (hi : i + 5 ≤ L) {zs : zS} (h7 : zX zs M7) (h8 : zR zs M8) (hW : zW zs) (next : ∀ (zs : zS) (M7 M8 : mm_M), zX zs M7 → zR zs M8 → zW zs → la_J p e s m below meth c z a7 a8 b Q i 1094 [] M7 M8) : la_J p e s m below meth c z a7 a8 b Q i 682 [] M7 M8 := by
  refine la_ld7 h dL_law_682 ?_
  refine la_c7 (As := []) (rest := []) (j := mX7_reckon) (r := (zq_reckon zs ).1) (zs := (zq_reckon zs ).2) h lk_L_85 rfl ⟨(Nat.le_of_ble_eq_true rfl), (Nat.le_of_ble_eq_true rfl)⟩ (Nat.le_of_ble_eq_true rfl) dL_law_683 (c_X7_reckon la_FX h7 hW ) (fun M7 h17 => ?_)
  refine la_ld8 h dL_law_686 ?_
  refine la_c8 (As := []) (rest := [.int (zq_reckon zs ).1]) (j := mX8_reckon) (r := (zq_reckon zs ).1) (zs := (zq_reckon zs ).2) h lk_L_88 rfl ⟨(Nat.le_of_ble_eq_true rfl), (Nat.le_of_ble_eq_true rfl)⟩ (Nat.le_of_ble_eq_true rfl) dL_law_687 (c_X8_reckon la_FR h8 hW ) (fun M8 h18 => ?_)
  exact la_eq h dL_law_690 (by decide) (next _ _ _ h17 h18 (zW_rk hW))
theorem zWc_odds {s : zS} (h : zW s) (x0 x1 : Int32) : zW (zq_odds s x0 x1).2 := by
  unfold zq_odds
  repeat' split
  all_goals exact h
set_option maxHeartbeats 2000000 in
theorem la_k17 (h : la_Fx p s m c z a7 a8 b L xs) (hL : L ≤ 2560) (hi : i + 5 ≤ L) {zs : zS} (h7 : zX zs M7) (h8 : zR zs M8) (hW : zW zs) (next : ∀ (zs : zS) (M7 M8 : mm_M), zX zs M7 → zR zs M8 → zW zs → la_J p e s m below meth c z a7 a8 b Q i 1094 [] M7 M8) : la_J p e s m below meth c z a7 a8 b Q i 695 [] M7 M8 := by
  refine la_ld7 h dL_law_695 ?_
  refine la_arg h hL (k := 1) (by omega) (by decide) dL_law_696 dL_law_697 dL_law_698 dL_law_699 dL_law_700 ?_
  refine la_arg h hL (k := 2) (by omega) (by decide) dL_law_701 dL_law_702 dL_law_703 dL_law_704 dL_law_705 ?_
  refine la_c7 (As := [.int (xs (i + 1)), .int (xs (i + 2))]) (rest := []) (j := mX7_odds) (r := (zq_odds zs (xs (i + 1)) (xs (i + 2))).1) (zs := (zq_odds zs (xs (i + 1)) (xs (i + 2))).2) h lk_L_89 rfl ⟨(Nat.le_of_ble_eq_true rfl), (Nat.le_of_ble_eq_true rfl)⟩ (Nat.le_of_ble_eq_true rfl) dL_law_706 (c_X7_odds la_FX h7 hW (xs (i + 1)) (xs (i + 2))) (fun M7 h17 => ?_)
  refine la_ld8 h dL_law_709 ?_
  refine la_arg h hL (k := 1) (by omega) (by decide) dL_law_710 dL_law_711 dL_law_712 dL_law_713 dL_law_714 ?_
  refine la_arg h hL (k := 2) (by omega) (by decide) dL_law_715 dL_law_716 dL_law_717 dL_law_718 dL_law_719 ?_
  refine la_c8 (As := [.int (xs (i + 1)), .int (xs (i + 2))]) (rest := [.int (zq_odds zs (xs (i + 1)) (xs (i + 2))).1]) (j := mX8_odds) (r := (zq_odds zs (xs (i + 1)) (xs (i + 2))).1) (zs := (zq_odds zs (xs (i + 1)) (xs (i + 2))).2) h lk_L_92 rfl ⟨(Nat.le_of_ble_eq_true rfl), (Nat.le_of_ble_eq_true rfl)⟩ (Nat.le_of_ble_eq_true rfl) dL_law_720 (c_X8_odds la_FR h8 hW (xs (i + 1)) (xs (i + 2))) (fun M8 h18 => ?_)
  exact la_eq h dL_law_723 (by decide) (next _ _ _ h17 h18 (zWc_odds hW _ _))
theorem zWc_table {s : zS} (h : zW s) (x0 x1 x2 : Int32) : zW (zq_table s x0 x1 x2).2 := by
  unfold zq_table
  repeat' split
  all_goals exact h
set_option maxHeartbeats 2000000 in
theorem la_k18 (h : la_Fx p s m c z a7 a8 b L xs) (hL : L ≤ 2560) (hi : i + 5 ≤ L) {zs : zS} (h7 : zX zs M7) (h8 : zR zs M8) (hW : zW zs) (next : ∀ (zs : zS) (M7 M8 : mm_M), zX zs M7 → zR zs M8 → zW zs → la_J p e s m below meth c z a7 a8 b Q i 1094 [] M7 M8) : la_J p e s m below meth c z a7 a8 b Q i 728 [] M7 M8 := by
  refine la_ld7 h dL_law_728 ?_
  refine la_arg h hL (k := 1) (by omega) (by decide) dL_law_729 dL_law_730 dL_law_731 dL_law_732 dL_law_733 ?_
  refine la_arg h hL (k := 2) (by omega) (by decide) dL_law_734 dL_law_735 dL_law_736 dL_law_737 dL_law_738 ?_
  refine la_arg h hL (k := 3) (by omega) (by decide) dL_law_739 dL_law_740 dL_law_741 dL_law_742 dL_law_743 ?_
  refine la_c7 (As := [.int (xs (i + 1)), .int (xs (i + 2)), .int (xs (i + 3))]) (rest := []) (j := mX7_table) (r := (zq_table zs (xs (i + 1)) (xs (i + 2)) (xs (i + 3))).1) (zs := (zq_table zs (xs (i + 1)) (xs (i + 2)) (xs (i + 3))).2) h lk_L_93 rfl ⟨(Nat.le_of_ble_eq_true rfl), (Nat.le_of_ble_eq_true rfl)⟩ (Nat.le_of_ble_eq_true rfl) dL_law_744 (c_X7_table la_FX h7 hW (xs (i + 1)) (xs (i + 2)) (xs (i + 3))) (fun M7 h17 => ?_)
  refine la_ld8 h dL_law_747 ?_
  refine la_arg h hL (k := 1) (by omega) (by decide) dL_law_748 dL_law_749 dL_law_750 dL_law_751 dL_law_752 ?_
  refine la_arg h hL (k := 2) (by omega) (by decide) dL_law_753 dL_law_754 dL_law_755 dL_law_756 dL_law_757 ?_
  refine la_arg h hL (k := 3) (by omega) (by decide) dL_law_758 dL_law_759 dL_law_760 dL_law_761 dL_law_762 ?_
  refine la_c8 (As := [.int (xs (i + 1)), .int (xs (i + 2)), .int (xs (i + 3))]) (rest := [.int (zq_table zs (xs (i + 1)) (xs (i + 2)) (xs (i + 3))).1]) (j := mX8_table) (r := (zq_table zs (xs (i + 1)) (xs (i + 2)) (xs (i + 3))).1) (zs := (zq_table zs (xs (i + 1)) (xs (i + 2)) (xs (i + 3))).2) h lk_L_96 rfl ⟨(Nat.le_of_ble_eq_true rfl), (Nat.le_of_ble_eq_true rfl)⟩ (Nat.le_of_ble_eq_true rfl) dL_law_763 (c_X8_table la_FR h8 hW (xs (i + 1)) (xs (i + 2)) (xs (i + 3))) (fun M8 h18 => ?_)
  exact la_eq h dL_law_766 (by decide) (next _ _ _ h17 h18 (zWc_table hW _ _ _))
theorem zWc_sky {s : zS} (h : zW s) (x0 : Int32) : zW (zq_sky s x0).2 := by
  unfold zq_sky
  repeat' split
  all_goals exact h
set_option maxHeartbeats 2000000 in
theorem la_k19 (h : la_Fx p s m c z a7 a8 b L xs) (hL : L ≤ 2560) (hi : i + 5 ≤ L) {zs : zS} (h7 : zX zs M7) (h8 : zR zs M8) (hW : zW zs) (next : ∀ (zs : zS) (M7 M8 : mm_M), zX zs M7 → zR zs M8 → zW zs → la_J p e s m below meth c z a7 a8 b Q i 1094 [] M7 M8) : la_J p e s m below meth c z a7 a8 b Q i 771 [] M7 M8 := by
  refine la_ld7 h dL_law_771 ?_
  refine la_arg h hL (k := 1) (by omega) (by decide) dL_law_772 dL_law_773 dL_law_774 dL_law_775 dL_law_776 ?_
  refine la_c7 (As := [.int (xs (i + 1))]) (rest := []) (j := mX7_sky) (r := (zq_sky zs (xs (i + 1))).1) (zs := (zq_sky zs (xs (i + 1))).2) h lk_L_97 rfl ⟨(Nat.le_of_ble_eq_true rfl), (Nat.le_of_ble_eq_true rfl)⟩ (Nat.le_of_ble_eq_true rfl) dL_law_777 (c_X7_sky la_FX h7 hW (xs (i + 1))) (fun M7 h17 => ?_)
  refine la_ld8 h dL_law_780 ?_
  refine la_arg h hL (k := 1) (by omega) (by decide) dL_law_781 dL_law_782 dL_law_783 dL_law_784 dL_law_785 ?_
  refine la_c8 (As := [.int (xs (i + 1))]) (rest := [.int (zq_sky zs (xs (i + 1))).1]) (j := mX8_sky) (r := (zq_sky zs (xs (i + 1))).1) (zs := (zq_sky zs (xs (i + 1))).2) h lk_L_100 rfl ⟨(Nat.le_of_ble_eq_true rfl), (Nat.le_of_ble_eq_true rfl)⟩ (Nat.le_of_ble_eq_true rfl) dL_law_786 (c_X8_sky la_FR h8 hW (xs (i + 1))) (fun M8 h18 => ?_)
  exact la_eq h dL_law_789 (by decide) (next _ _ _ h17 h18 (zWc_sky hW _))
theorem zWc_far {s : zS} (h : zW s) (x0 x1 : Int32) : zW (zq_far s x0 x1).2 := by
  unfold zq_far
  repeat' split
  all_goals exact h
set_option maxHeartbeats 2000000 in
theorem la_k20 (h : la_Fx p s m c z a7 a8 b L xs) (hL : L ≤ 2560) (hi : i + 5 ≤ L) {zs : zS} (h7 : zX zs M7) (h8 : zR zs M8) (hW : zW zs) (next : ∀ (zs : zS) (M7 M8 : mm_M), zX zs M7 → zR zs M8 → zW zs → la_J p e s m below meth c z a7 a8 b Q i 1094 [] M7 M8) : la_J p e s m below meth c z a7 a8 b Q i 794 [] M7 M8 := by
  refine la_ld7 h dL_law_794 ?_
  refine la_arg h hL (k := 1) (by omega) (by decide) dL_law_795 dL_law_796 dL_law_797 dL_law_798 dL_law_799 ?_
  refine la_arg h hL (k := 2) (by omega) (by decide) dL_law_800 dL_law_801 dL_law_802 dL_law_803 dL_law_804 ?_
  refine la_c7 (As := [.int (xs (i + 1)), .int (xs (i + 2))]) (rest := []) (j := mX7_far) (r := (zq_far zs (xs (i + 1)) (xs (i + 2))).1) (zs := (zq_far zs (xs (i + 1)) (xs (i + 2))).2) h lk_L_101 rfl ⟨(Nat.le_of_ble_eq_true rfl), (Nat.le_of_ble_eq_true rfl)⟩ (Nat.le_of_ble_eq_true rfl) dL_law_805 (c_X7_far la_FX h7 hW (xs (i + 1)) (xs (i + 2))) (fun M7 h17 => ?_)
  refine la_ld8 h dL_law_808 ?_
  refine la_arg h hL (k := 1) (by omega) (by decide) dL_law_809 dL_law_810 dL_law_811 dL_law_812 dL_law_813 ?_
  refine la_arg h hL (k := 2) (by omega) (by decide) dL_law_814 dL_law_815 dL_law_816 dL_law_817 dL_law_818 ?_
  refine la_c8 (As := [.int (xs (i + 1)), .int (xs (i + 2))]) (rest := [.int (zq_far zs (xs (i + 1)) (xs (i + 2))).1]) (j := mX8_far) (r := (zq_far zs (xs (i + 1)) (xs (i + 2))).1) (zs := (zq_far zs (xs (i + 1)) (xs (i + 2))).2) h lk_L_104 rfl ⟨(Nat.le_of_ble_eq_true rfl), (Nat.le_of_ble_eq_true rfl)⟩ (Nat.le_of_ble_eq_true rfl) dL_law_819 (c_X8_far la_FR h8 hW (xs (i + 1)) (xs (i + 2))) (fun M8 h18 => ?_)
  exact la_eq h dL_law_822 (by decide) (next _ _ _ h17 h18 (zWc_far hW _ _))
theorem zWc_lean {s : zS} (h : zW s) (x0 x1 : Int32) : zW (zq_lean s x0 x1).2 := by
  unfold zq_lean
  repeat' split
  all_goals exact h
set_option maxHeartbeats 2000000 in
theorem la_k21 (h : la_Fx p s m c z a7 a8 b L xs) (hL : L ≤ 2560) (hi : i + 5 ≤ L) {zs : zS} (h7 : zX zs M7) (h8 : zR zs M8) (hW : zW zs) (next : ∀ (zs : zS) (M7 M8 : mm_M), zX zs M7 → zR zs M8 → zW zs → la_J p e s m below meth c z a7 a8 b Q i 1094 [] M7 M8) : la_J p e s m below meth c z a7 a8 b Q i 827 [] M7 M8 := by
  refine la_ld7 h dL_law_827 ?_
  refine la_arg h hL (k := 1) (by omega) (by decide) dL_law_828 dL_law_829 dL_law_830 dL_law_831 dL_law_832 ?_
  refine la_arg h hL (k := 2) (by omega) (by decide) dL_law_833 dL_law_834 dL_law_835 dL_law_836 dL_law_837 ?_
  refine la_c7 (As := [.int (xs (i + 1)), .int (xs (i + 2))]) (rest := []) (j := mX7_lean) (r := (zq_lean zs (xs (i + 1)) (xs (i + 2))).1) (zs := (zq_lean zs (xs (i + 1)) (xs (i + 2))).2) h lk_L_105 rfl ⟨(Nat.le_of_ble_eq_true rfl), (Nat.le_of_ble_eq_true rfl)⟩ (Nat.le_of_ble_eq_true rfl) dL_law_838 (c_X7_lean la_FX h7 hW (xs (i + 1)) (xs (i + 2))) (fun M7 h17 => ?_)
  refine la_ld8 h dL_law_841 ?_
  refine la_arg h hL (k := 1) (by omega) (by decide) dL_law_842 dL_law_843 dL_law_844 dL_law_845 dL_law_846 ?_
  refine la_arg h hL (k := 2) (by omega) (by decide) dL_law_847 dL_law_848 dL_law_849 dL_law_850 dL_law_851 ?_
  refine la_c8 (As := [.int (xs (i + 1)), .int (xs (i + 2))]) (rest := [.int (zq_lean zs (xs (i + 1)) (xs (i + 2))).1]) (j := mX8_lean) (r := (zq_lean zs (xs (i + 1)) (xs (i + 2))).1) (zs := (zq_lean zs (xs (i + 1)) (xs (i + 2))).2) h lk_L_108 rfl ⟨(Nat.le_of_ble_eq_true rfl), (Nat.le_of_ble_eq_true rfl)⟩ (Nat.le_of_ble_eq_true rfl) dL_law_852 (c_X8_lean la_FR h8 hW (xs (i + 1)) (xs (i + 2))) (fun M8 h18 => ?_)
  exact la_eq h dL_law_855 (by decide) (next _ _ _ h17 h18 (zWc_lean hW _ _))
theorem zWc_agreed {s : zS} (h : zW s) (x0 x1 x2 : Int32) : zW (zq_agreed s x0 x1 x2).2 := by
  unfold zq_agreed
  repeat' split
  all_goals exact h
set_option maxHeartbeats 2000000 in
theorem la_k22 (h : la_Fx p s m c z a7 a8 b L xs) (hL : L ≤ 2560) (hi : i + 5 ≤ L) {zs : zS} (h7 : zX zs M7) (h8 : zR zs M8) (hW : zW zs) (next : ∀ (zs : zS) (M7 M8 : mm_M), zX zs M7 → zR zs M8 → zW zs → la_J p e s m below meth c z a7 a8 b Q i 1094 [] M7 M8) : la_J p e s m below meth c z a7 a8 b Q i 860 [] M7 M8 := by
  refine la_ld7 h dL_law_860 ?_
  refine la_arg h hL (k := 1) (by omega) (by decide) dL_law_861 dL_law_862 dL_law_863 dL_law_864 dL_law_865 ?_
  refine la_arg h hL (k := 2) (by omega) (by decide) dL_law_866 dL_law_867 dL_law_868 dL_law_869 dL_law_870 ?_
  refine la_arg h hL (k := 3) (by omega) (by decide) dL_law_871 dL_law_872 dL_law_873 dL_law_874 dL_law_875 ?_
  refine la_c7 (As := [.int (xs (i + 1)), .int (xs (i + 2)), .int (xs (i + 3))]) (rest := []) (j := mX7_agreed) (r := (zq_agreed zs (xs (i + 1)) (xs (i + 2)) (xs (i + 3))).1) (zs := (zq_agreed zs (xs (i + 1)) (xs (i + 2)) (xs (i + 3))).2) h lk_L_109 rfl ⟨(Nat.le_of_ble_eq_true rfl), (Nat.le_of_ble_eq_true rfl)⟩ (Nat.le_of_ble_eq_true rfl) dL_law_876 (c_X7_agreed la_FX h7 hW (xs (i + 1)) (xs (i + 2)) (xs (i + 3))) (fun M7 h17 => ?_)
  refine la_ld8 h dL_law_879 ?_
  refine la_arg h hL (k := 1) (by omega) (by decide) dL_law_880 dL_law_881 dL_law_882 dL_law_883 dL_law_884 ?_
  refine la_arg h hL (k := 2) (by omega) (by decide) dL_law_885 dL_law_886 dL_law_887 dL_law_888 dL_law_889 ?_
  refine la_arg h hL (k := 3) (by omega) (by decide) dL_law_890 dL_law_891 dL_law_892 dL_law_893 dL_law_894 ?_
  refine la_c8 (As := [.int (xs (i + 1)), .int (xs (i + 2)), .int (xs (i + 3))]) (rest := [.int (zq_agreed zs (xs (i + 1)) (xs (i + 2)) (xs (i + 3))).1]) (j := mX8_agreed) (r := (zq_agreed zs (xs (i + 1)) (xs (i + 2)) (xs (i + 3))).1) (zs := (zq_agreed zs (xs (i + 1)) (xs (i + 2)) (xs (i + 3))).2) h lk_L_112 rfl ⟨(Nat.le_of_ble_eq_true rfl), (Nat.le_of_ble_eq_true rfl)⟩ (Nat.le_of_ble_eq_true rfl) dL_law_895 (c_X8_agreed la_FR h8 hW (xs (i + 1)) (xs (i + 2)) (xs (i + 3))) (fun M8 h18 => ?_)
  exact la_eq h dL_law_898 (by decide) (next _ _ _ h17 h18 (zWc_agreed hW _ _ _))
theorem zWc_green {s : zS} (h : zW s) (x0 : Int32) : zW (zq_green s x0).2 := by
  unfold zq_green
  repeat' split
  all_goals exact h
set_option maxHeartbeats 2000000 in
theorem la_k23 (h : la_Fx p s m c z a7 a8 b L xs) (hL : L ≤ 2560) (hi : i + 5 ≤ L) {zs : zS} (h7 : zX zs M7) (h8 : zR zs M8) (hW : zW zs) (next : ∀ (zs : zS) (M7 M8 : mm_M), zX zs M7 → zR zs M8 → zW zs → la_J p e s m below meth c z a7 a8 b Q i 1094 [] M7 M8) : la_J p e s m below meth c z a7 a8 b Q i 903 [] M7 M8 := by
  refine la_ld7 h dL_law_903 ?_
  refine la_arg h hL (k := 1) (by omega) (by decide) dL_law_904 dL_law_905 dL_law_906 dL_law_907 dL_law_908 ?_
  refine la_c7 (As := [.int (xs (i + 1))]) (rest := []) (j := mX7_green) (r := (zq_green zs (xs (i + 1))).1) (zs := (zq_green zs (xs (i + 1))).2) h lk_L_113 rfl ⟨(Nat.le_of_ble_eq_true rfl), (Nat.le_of_ble_eq_true rfl)⟩ (Nat.le_of_ble_eq_true rfl) dL_law_909 (c_X7_green la_FX h7 hW (xs (i + 1))) (fun M7 h17 => ?_)
  refine la_ld8 h dL_law_912 ?_
  refine la_arg h hL (k := 1) (by omega) (by decide) dL_law_913 dL_law_914 dL_law_915 dL_law_916 dL_law_917 ?_
  refine la_c8 (As := [.int (xs (i + 1))]) (rest := [.int (zq_green zs (xs (i + 1))).1]) (j := mX8_green) (r := (zq_green zs (xs (i + 1))).1) (zs := (zq_green zs (xs (i + 1))).2) h lk_L_116 rfl ⟨(Nat.le_of_ble_eq_true rfl), (Nat.le_of_ble_eq_true rfl)⟩ (Nat.le_of_ble_eq_true rfl) dL_law_918 (c_X8_green la_FR h8 hW (xs (i + 1))) (fun M8 h18 => ?_)
  exact la_eq h dL_law_921 (by decide) (next _ _ _ h17 h18 (zWc_green hW _))
theorem zWc_given {s : zS} (h : zW s) (x0 : Int32) : zW (zq_given s x0).2 := by
  unfold zq_given
  repeat' split
  all_goals exact h
set_option maxHeartbeats 2000000 in
theorem la_k24 (h : la_Fx p s m c z a7 a8 b L xs) (hL : L ≤ 2560) (hi : i + 5 ≤ L) {zs : zS} (h7 : zX zs M7) (h8 : zR zs M8) (hW : zW zs) (next : ∀ (zs : zS) (M7 M8 : mm_M), zX zs M7 → zR zs M8 → zW zs → la_J p e s m below meth c z a7 a8 b Q i 1094 [] M7 M8) : la_J p e s m below meth c z a7 a8 b Q i 926 [] M7 M8 := by
  refine la_ld7 h dL_law_926 ?_
  refine la_arg h hL (k := 1) (by omega) (by decide) dL_law_927 dL_law_928 dL_law_929 dL_law_930 dL_law_931 ?_
  refine la_c7 (As := [.int (xs (i + 1))]) (rest := []) (j := mX7_given) (r := (zq_given zs (xs (i + 1))).1) (zs := (zq_given zs (xs (i + 1))).2) h lk_L_117 rfl ⟨(Nat.le_of_ble_eq_true rfl), (Nat.le_of_ble_eq_true rfl)⟩ (Nat.le_of_ble_eq_true rfl) dL_law_932 (c_X7_given la_FX h7 hW (xs (i + 1))) (fun M7 h17 => ?_)
  refine la_ld8 h dL_law_935 ?_
  refine la_arg h hL (k := 1) (by omega) (by decide) dL_law_936 dL_law_937 dL_law_938 dL_law_939 dL_law_940 ?_
  refine la_c8 (As := [.int (xs (i + 1))]) (rest := [.int (zq_given zs (xs (i + 1))).1]) (j := mX8_given) (r := (zq_given zs (xs (i + 1))).1) (zs := (zq_given zs (xs (i + 1))).2) h lk_L_120 rfl ⟨(Nat.le_of_ble_eq_true rfl), (Nat.le_of_ble_eq_true rfl)⟩ (Nat.le_of_ble_eq_true rfl) dL_law_941 (c_X8_given la_FR h8 hW (xs (i + 1))) (fun M8 h18 => ?_)
  exact la_eq h dL_law_944 (by decide) (next _ _ _ h17 h18 (zWc_given hW _))
set_option maxHeartbeats 2000000 in
theorem la_k25 (h : la_Fx p s m c z a7 a8 b L xs) (hL : L ≤ 2560) (hi : i + 5 ≤ L) {zs : zS} (h7 : zX zs M7) (h8 : zR zs M8) (hW : zW zs) (next : ∀ (zs : zS) (M7 M8 : mm_M), zX zs M7 → zR zs M8 → zW zs → la_J p e s m below meth c z a7 a8 b Q i 1094 [] M7 M8) : la_J p e s m below meth c z a7 a8 b Q i 949 [] M7 M8 := by
  refine la_ld7 h dL_law_949 ?_
  refine la_arg h hL (k := 1) (by omega) (by decide) dL_law_950 dL_law_951 dL_law_952 dL_law_953 dL_law_954 ?_
  refine la_c7 (As := [.int (xs (i + 1))]) (rest := []) (j := mX7_things) (r := (zq_things zs (xs (i + 1))).1) (zs := (zq_things zs (xs (i + 1))).2) h lk_L_121 rfl ⟨(Nat.le_of_ble_eq_true rfl), (Nat.le_of_ble_eq_true rfl)⟩ (Nat.le_of_ble_eq_true rfl) dL_law_955 (c_X7_things la_FX h7 hW (xs (i + 1))) (fun M7 h17 => ?_)
  refine la_ld8 h dL_law_958 ?_
  refine la_arg h hL (k := 1) (by omega) (by decide) dL_law_959 dL_law_960 dL_law_961 dL_law_962 dL_law_963 ?_
  refine la_c8 (As := [.int (xs (i + 1))]) (rest := [.int (zq_things zs (xs (i + 1))).1]) (j := mX8_things) (r := (zq_things zs (xs (i + 1))).1) (zs := (zq_things zs (xs (i + 1))).2) h lk_L_124 rfl ⟨(Nat.le_of_ble_eq_true rfl), (Nat.le_of_ble_eq_true rfl)⟩ (Nat.le_of_ble_eq_true rfl) dL_law_964 (c_X8_things la_FR h8 hW (xs (i + 1))) (fun M8 h18 => ?_)
  exact la_eq h dL_law_967 (by decide) (next _ _ _ h17 h18 (zW_things hW _))
set_option maxHeartbeats 2000000 in
theorem la_k26 (h : la_Fx p s m c z a7 a8 b L xs) (hL : L ≤ 2560) (hi : i + 5 ≤ L) {zs : zS} (h7 : zX zs M7) (h8 : zR zs M8) (hW : zW zs) (next : ∀ (zs : zS) (M7 M8 : mm_M), zX zs M7 → zR zs M8 → zW zs → la_J p e s m below meth c z a7 a8 b Q i 1094 [] M7 M8) : la_J p e s m below meth c z a7 a8 b Q i 972 [] M7 M8 := by
  refine la_ld7 h dL_law_972 ?_
  refine la_arg h hL (k := 1) (by omega) (by decide) dL_law_973 dL_law_974 dL_law_975 dL_law_976 dL_law_977 ?_
  refine la_arg h hL (k := 2) (by omega) (by decide) dL_law_978 dL_law_979 dL_law_980 dL_law_981 dL_law_982 ?_
  refine la_c7 (As := [.int (xs (i + 1)), .int (xs (i + 2))]) (rest := []) (j := mX7_weight) (r := (zq_weight zs (xs (i + 1)) (xs (i + 2))).1) (zs := (zq_weight zs (xs (i + 1)) (xs (i + 2))).2) h lk_L_125 rfl ⟨(Nat.le_of_ble_eq_true rfl), (Nat.le_of_ble_eq_true rfl)⟩ (Nat.le_of_ble_eq_true rfl) dL_law_983 (c_X7_weight la_FX h7 hW (xs (i + 1)) (xs (i + 2))) (fun M7 h17 => ?_)
  refine la_ld8 h dL_law_986 ?_
  refine la_arg h hL (k := 1) (by omega) (by decide) dL_law_987 dL_law_988 dL_law_989 dL_law_990 dL_law_991 ?_
  refine la_arg h hL (k := 2) (by omega) (by decide) dL_law_992 dL_law_993 dL_law_994 dL_law_995 dL_law_996 ?_
  refine la_c8 (As := [.int (xs (i + 1)), .int (xs (i + 2))]) (rest := [.int (zq_weight zs (xs (i + 1)) (xs (i + 2))).1]) (j := mX8_weight) (r := (zq_weight zs (xs (i + 1)) (xs (i + 2))).1) (zs := (zq_weight zs (xs (i + 1)) (xs (i + 2))).2) h lk_L_128 rfl ⟨(Nat.le_of_ble_eq_true rfl), (Nat.le_of_ble_eq_true rfl)⟩ (Nat.le_of_ble_eq_true rfl) dL_law_997 (c_X8_weight la_FR h8 hW (xs (i + 1)) (xs (i + 2))) (fun M8 h18 => ?_)
  exact la_eq h dL_law_1000 (by decide) (next _ _ _ h17 h18 (zW_weight hW _ _))
set_option maxHeartbeats 2000000 in
theorem la_k27 (h : la_Fx p s m c z a7 a8 b L xs) (hL : L ≤ 2560) (hi : i + 5 ≤ L) {zs : zS} (h7 : zX zs M7) (h8 : zR zs M8) (hW : zW zs) (next : ∀ (zs : zS) (M7 M8 : mm_M), zX zs M7 → zR zs M8 → zW zs → la_J p e s m below meth c z a7 a8 b Q i 1094 [] M7 M8) : la_J p e s m below meth c z a7 a8 b Q i 1005 [] M7 M8 := by
  refine la_ld7 h dL_law_1005 ?_
  refine la_arg h hL (k := 1) (by omega) (by decide) dL_law_1006 dL_law_1007 dL_law_1008 dL_law_1009 dL_law_1010 ?_
  refine la_arg h hL (k := 2) (by omega) (by decide) dL_law_1011 dL_law_1012 dL_law_1013 dL_law_1014 dL_law_1015 ?_
  refine la_c7 (As := [.int (xs (i + 1)), .int (xs (i + 2))]) (rest := []) (j := mX7_question) (r := (zq_question zs (xs (i + 1)) (xs (i + 2))).1) (zs := (zq_question zs (xs (i + 1)) (xs (i + 2))).2) h lk_L_129 rfl ⟨(Nat.le_of_ble_eq_true rfl), (Nat.le_of_ble_eq_true rfl)⟩ (Nat.le_of_ble_eq_true rfl) dL_law_1016 (c_X7_question la_FX h7 hW (xs (i + 1)) (xs (i + 2))) (fun M7 h17 => ?_)
  refine la_ld8 h dL_law_1019 ?_
  refine la_arg h hL (k := 1) (by omega) (by decide) dL_law_1020 dL_law_1021 dL_law_1022 dL_law_1023 dL_law_1024 ?_
  refine la_arg h hL (k := 2) (by omega) (by decide) dL_law_1025 dL_law_1026 dL_law_1027 dL_law_1028 dL_law_1029 ?_
  refine la_c8 (As := [.int (xs (i + 1)), .int (xs (i + 2))]) (rest := [.int (zq_question zs (xs (i + 1)) (xs (i + 2))).1]) (j := mX8_question) (r := (zq_question zs (xs (i + 1)) (xs (i + 2))).1) (zs := (zq_question zs (xs (i + 1)) (xs (i + 2))).2) h lk_L_132 rfl ⟨(Nat.le_of_ble_eq_true rfl), (Nat.le_of_ble_eq_true rfl)⟩ (Nat.le_of_ble_eq_true rfl) dL_law_1030 (c_X8_question la_FR h8 hW (xs (i + 1)) (xs (i + 2))) (fun M8 h18 => ?_)
  exact la_eq h dL_law_1033 (by decide) (next _ _ _ h17 h18 (zW_question hW _ _))
theorem zWc_tree {s : zS} (h : zW s) (x0 x1 : Int32) : zW (zq_tree s x0 x1).2 := by
  unfold zq_tree
  repeat' split
  all_goals exact h
set_option maxHeartbeats 2000000 in
theorem la_k28 (h : la_Fx p s m c z a7 a8 b L xs) (hL : L ≤ 2560) (hi : i + 5 ≤ L) {zs : zS} (h7 : zX zs M7) (h8 : zR zs M8) (hW : zW zs) (next : ∀ (zs : zS) (M7 M8 : mm_M), zX zs M7 → zR zs M8 → zW zs → la_J p e s m below meth c z a7 a8 b Q i 1094 [] M7 M8) : la_J p e s m below meth c z a7 a8 b Q i 1038 [] M7 M8 := by
  refine la_ld7 h dL_law_1038 ?_
  refine la_arg h hL (k := 1) (by omega) (by decide) dL_law_1039 dL_law_1040 dL_law_1041 dL_law_1042 dL_law_1043 ?_
  refine la_arg h hL (k := 2) (by omega) (by decide) dL_law_1044 dL_law_1045 dL_law_1046 dL_law_1047 dL_law_1048 ?_
  refine la_c7 (As := [.int (xs (i + 1)), .int (xs (i + 2))]) (rest := []) (j := mX7_tree) (r := (zq_tree zs (xs (i + 1)) (xs (i + 2))).1) (zs := (zq_tree zs (xs (i + 1)) (xs (i + 2))).2) h lk_L_133 rfl ⟨(Nat.le_of_ble_eq_true rfl), (Nat.le_of_ble_eq_true rfl)⟩ (Nat.le_of_ble_eq_true rfl) dL_law_1049 (c_X7_tree la_FX h7 hW (xs (i + 1)) (xs (i + 2))) (fun M7 h17 => ?_)
  refine la_ld8 h dL_law_1052 ?_
  refine la_arg h hL (k := 1) (by omega) (by decide) dL_law_1053 dL_law_1054 dL_law_1055 dL_law_1056 dL_law_1057 ?_
  refine la_arg h hL (k := 2) (by omega) (by decide) dL_law_1058 dL_law_1059 dL_law_1060 dL_law_1061 dL_law_1062 ?_
  refine la_c8 (As := [.int (xs (i + 1)), .int (xs (i + 2))]) (rest := [.int (zq_tree zs (xs (i + 1)) (xs (i + 2))).1]) (j := mX8_tree) (r := (zq_tree zs (xs (i + 1)) (xs (i + 2))).1) (zs := (zq_tree zs (xs (i + 1)) (xs (i + 2))).2) h lk_L_136 rfl ⟨(Nat.le_of_ble_eq_true rfl), (Nat.le_of_ble_eq_true rfl)⟩ (Nat.le_of_ble_eq_true rfl) dL_law_1063 (c_X8_tree la_FR h8 hW (xs (i + 1)) (xs (i + 2))) (fun M8 h18 => ?_)
  exact la_eq h dL_law_1066 (by decide) (next _ _ _ h17 h18 (zWc_tree hW _ _))
theorem zWc_wrong {s : zS} (h : zW s) (x0 : Int32) : zW (zq_wrong s x0).2 := by
  unfold zq_wrong
  repeat' split
  all_goals exact h
set_option maxHeartbeats 2000000 in
theorem la_k29 (h : la_Fx p s m c z a7 a8 b L xs) (hL : L ≤ 2560) (hi : i + 5 ≤ L) {zs : zS} (h7 : zX zs M7) (h8 : zR zs M8) (hW : zW zs) (next : ∀ (zs : zS) (M7 M8 : mm_M), zX zs M7 → zR zs M8 → zW zs → la_J p e s m below meth c z a7 a8 b Q i 1094 [] M7 M8) : la_J p e s m below meth c z a7 a8 b Q i 1071 [] M7 M8 := by
  refine la_ld7 h dL_law_1071 ?_
  refine la_arg h hL (k := 1) (by omega) (by decide) dL_law_1072 dL_law_1073 dL_law_1074 dL_law_1075 dL_law_1076 ?_
  refine la_c7 (As := [.int (xs (i + 1))]) (rest := []) (j := mX7_wrong) (r := (zq_wrong zs (xs (i + 1))).1) (zs := (zq_wrong zs (xs (i + 1))).2) h lk_L_137 rfl ⟨(Nat.le_of_ble_eq_true rfl), (Nat.le_of_ble_eq_true rfl)⟩ (Nat.le_of_ble_eq_true rfl) dL_law_1077 (c_X7_wrong la_FX h7 hW (xs (i + 1))) (fun M7 h17 => ?_)
  refine la_ld8 h dL_law_1080 ?_
  refine la_arg h hL (k := 1) (by omega) (by decide) dL_law_1081 dL_law_1082 dL_law_1083 dL_law_1084 dL_law_1085 ?_
  refine la_c8 (As := [.int (xs (i + 1))]) (rest := [.int (zq_wrong zs (xs (i + 1))).1]) (j := mX8_wrong) (r := (zq_wrong zs (xs (i + 1))).1) (zs := (zq_wrong zs (xs (i + 1))).2) h lk_L_140 rfl ⟨(Nat.le_of_ble_eq_true rfl), (Nat.le_of_ble_eq_true rfl)⟩ (Nat.le_of_ble_eq_true rfl) dL_law_1086 (c_X8_wrong la_FR h8 hW (xs (i + 1))) (fun M8 h18 => ?_)
  exact la_eq h dL_law_1089 (by decide) (next _ _ _ h17 h18 (zWc_wrong hW _))
end LB
