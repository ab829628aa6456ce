/-! constructors of the classes -/
def zs0 : zS := fun c j => match c with
  | 0 => if j = 6 then 2 else 0
  | 10 => zfi j
  | 12 => z_o0 j
  | 13 => z_t0 j
  | 14 => z_y0 j
  | 15 => 1
  | _ => 0
def ct_ad : List (Nat × Nat) → (Nat → Nat) → Nat → Nat
  | [], sa, c => sa c
  | (k, v) :: r, sa, c => if c = k then v else ct_ad r sa c
theorem ct_ad_hi {sa : Nat → Nat} : ∀ (L : List (Nat × Nat)), (∀ x ∈ L, x.1 < 100) → ∀ c, 100 ≤ c → ct_ad L sa c = sa c := by
  intro L
  induction L with
  | nil => intro _ c _; rfl
  | cons x r ih =>
    intro h c hc
    have h1 := h x List.mem_cons_self
    show (if c = x.1 then x.2 else ct_ad r sa c) = sa c
    rw [if_neg (by omega)]
    exact ih (fun y hy => h y (List.mem_cons_of_mem _ hy)) c hc
def ct_M0 : mm_M := (fun _ _ => 0, fun _ _ => 0)
theorem ct_one {h0 sz : Nat} {x : va_E} : va_D (ct_A h0 sz) [(h0, x)] := by
  refine ⟨fun i j p q hi hj _ => ?_, fun k q hk => ?_⟩
  · have h1 : i < 1 := (List.getElem?_eq_some_iff.mp hi).1
    have h2 : j < 1 := (List.getElem?_eq_some_iff.mp hj).1
    omega
  · have h1 : k < 1 := (List.getElem?_eq_some_iff.mp hk).1
    rw [show k = 0 by omega] at hk
    cases hk
    exact Or.inl rfl
theorem ct_cpy : ∀ j, j < 8 → va_cpy mm_first (fun _ => 0) (nI 0).toNatClampNeg (nI 0).toNatClampNeg (nI 8).toNatClampNeg j = nI (zfi j) := by decide +kernel
theorem ct_vaD {E : mm_E} {M : mm_M} {A : Nat → Prop} (hap : mm_ap E) (hAE : ∀ c, c ∈ E.2.1 → A (E.1 c)) : va_D A (mm_wd E M) := ⟨(mm_vaD (sz := 0) hap).1, fun k q hk => by
  obtain ⟨c, hc, rfl⟩ := mm_wdk hk
  exact hAE c (List.mem_of_getElem? hc)⟩
theorem ct_AE {E : mm_E} {M : mm_M} {A : Nat → Prop} (hD : va_D A (mm_wd E M)) : ∀ c, c ∈ E.2.1 → A (E.1 c) := fun c hc => by
  obtain ⟨k, h1, h2⟩ := mm_pos hc
  exact hD.2 k _ (h2 M)
section KT
variable {p : Program} {l : Launch} {e : Env} {R : Room} {s : State} {m : MethodId} {args : Array Value} {below : List Frame} {meth : Method} {c : Code} {H : Heap} {locs : List Loc} {cells slots : Nat} {Q : State → Prop}
variable {cc : ByteArray} {pc : Nat} {ls : Array Slot} {rest : List Value} {A : Nat → Prop} {E : mm_E} {M : mm_M} {own : String} {nL : Nat}
theorem kt_get (F : CallFix p m c cc nL s args GW own) (hK : va_K E.2.2.1 vwCl (mm_tys E) s) (hP : va_P E.2.2.1 vwCl (mm_wd E M) H) {c0 ci N idx k : Nat} {C : String} {T : u_T} {fs : List Value} {v : Value} (hc : c0 ∈ E.2.1) (hin : ∀ w ∈ u_ws C T N, w ∈ GW) (hcl : vwCl[ci]? = some (C, T, N)) (hcel : mm_cl E (M.1 c0) (M.2 c0) c0 = .inr (ci, fs)) (hk : k < N) (hlk : Cond.fieldLink own idx (T k).1 (T k).2.1 (T k).2.2.1 ∈ GW) (hv : fs[k]? = some v) (hd : decode cc pc = .ok (.getfield idx, 3))
    (kk : W p l e R s m args below meth c H locs cells slots Q (F0 m (pc + 3) ls (v :: rest))) : W p l e R s m args below meth c H locs cells slots Q (F0 m pc ls (.ref (E.1 c0) :: rest)) := by
  obtain ⟨q0, hq, hw⟩ := mm_pos hc
  exact va_get F.1 F.2.1 F.2.2.2.2 hin F.2.2.2.1 hK hP q0 ((hw M).trans (by rw [hcel])) hcl k hk (F.2.2.2.2 _ hlk) (fun _ h => h) hv hd kk
theorem kt_iast (F : CallFix p m c cc nL s args GW own) (hK : va_K E.2.2.1 vwCl (mm_tys E) s) (hap : mm_ap E) (hAE : ∀ c, c ∈ E.2.1 → A (E.1 c)) (hP : va_P E.2.2.1 vwCl (mm_wd E M) H) (hS : va_S A s.heap H locs) {c0 n j : Nat} {y : Int32} (hj : j < n) (hn : n < 2 ^ 31) (hc : c0 ∈ E.2.1) (hcel : ∀ (u : Nat → Int32) (v : Nat → Int64), mm_cl E u v c0 = .inl (E.2.2.2.1.1, n, .inl u)) (hd : decode cc pc = .ok (.iastore, 1))
    (kk : ∀ (H1 : Heap) (locs1 : List Loc), va_P E.2.2.1 vwCl (mm_wd E (mm_si M c0 (upd (M.1 c0) j y))) H1 → va_S A s.heap H1 locs1 → W p l e R s m args below meth c H1 locs1 cells slots Q (F0 m (pc + 1) ls rest)) : W p l e R s m args below meth c H locs cells slots Q (F0 m pc ls (.int y :: .int (nI j) :: .ref (E.1 c0) :: rest)) := by
  obtain ⟨q0, hq, hw⟩ := mm_pos hc
  refine va_iast F.1 F.2.1 hK hP (ct_vaD hap hAE) hS q0 0 ((hw M).trans (by rw [hcel])) rfl (vp_in_nI hj hn) hd (fun H1 locs1 hP1 hD1 hS1 => ?_)
  rw [nI_clamp (Nat.lt_trans hj hn), mm_set (M' := mm_si M c0 (upd (M.1 c0) j y)) hap.1 hq (by rw [hcel, mm_si_s]) (fun d h => mm_si_o d h)] at hP1
  exact kk H1 locs1 hP1 hS1
theorem kt_put (F : CallFix p m c cc nL s args GW own) (hK : va_K E.2.2.1 vwCl (mm_tys E) s) (hap : mm_ap E) (hAE : ∀ c, c ∈ E.2.1 → A (E.1 c)) (hP : va_P E.2.2.1 vwCl (mm_wd E M) H) (hS : va_S A s.heap H locs) {c0 ci N idx k : Nat} {C : String} {T : u_T} {ty0 : Nat → FieldType} {fs : List Value} {v : Value} {M' : mm_M} {ty : FieldType} (hc : c0 ∈ E.2.1) (hin : ∀ w ∈ u_ws C T N, w ∈ GW) (hty : ∀ k, k < N → parseFieldDescriptor (T k).2.2.1 = some (ty0 k)) (hnm : ∀ a, a < N → ∀ b, b < N → a ≠ b → (T a).2.1 ≠ (T b).2.1) (hcl : vwCl[ci]? = some (C, T, N)) (hcel : mm_cl E (M.1 c0) (M.2 c0) c0 = .inr (ci, fs)) (hk : k < N) (hl0 : k < fs.length) (hlk : Cond.fieldLink own idx (T k).1 (T k).2.1 (T k).2.2.1 ∈ GW) (hfin : (T k).2.2.2 = false) (hdt : parseFieldDescriptor (T k).2.2.1 = some ty) (hn : narrow ty v = v) (hfit : fits ty v = true)
    (he : mm_cl E (M'.1 c0) (M'.2 c0) c0 = .inr (ci, fs.set k v)) (ho : ∀ d, d ≠ c0 → M'.1 d = M.1 d ∧ M'.2 d = M.2 d) (hd : decode cc pc = .ok (.putfield idx, 3))
    (kk : ∀ (H1 : Heap) (locs1 : List Loc), va_P E.2.2.1 vwCl (mm_wd E M') H1 → va_S A s.heap H1 locs1 → W p l e R s m args below meth c H1 locs1 cells slots Q (F0 m (pc + 3) ls rest)) : W p l e R s m args below meth c H locs cells slots Q (F0 m pc ls (v :: .ref (E.1 c0) :: rest)) := by
  obtain ⟨q0, hq, hw⟩ := mm_pos hc
  refine va_put F.1 F.2.1 F.2.2.2.2 hin ty0 hty hnm F.2.2.2.1 hK hP (ct_vaD hap hAE) hS q0 ((hw M).trans (by rw [hcel])) hcl k hk (F.2.2.2.2 _ hlk) (fun _ h => h) hfin hdt hn hfit hl0 hd (fun H1 locs1 hP1 hD1 hS1 => ?_)
  rw [mm_set hap.1 hq he ho] at hP1
  exact kk H1 locs1 hP1 hS1
theorem kt_ge (F : CallFix p m c cc nL s args GW own) {a b : Nat} {off : Int} {tgt : Nat} (ha : a < 2 ^ 31) (hb : b < 2 ^ 31) (hd : decode cc pc = .ok (.if_icmp .ge off, 3)) (ht : (pc : Int) + off = (tgt : Int)) (kt : b ≤ a → W p l e R s m args below meth c H locs cells slots Q (F0 m tgt ls rest)) (kf : a < b → W p l e R s m args below meth c H locs cells slots Q (F0 m (pc + 3) ls rest)) : W p l e R s m args below meth c H locs cells slots Q (F0 m pc ls (.int (nI b) :: .int (nI a) :: rest)) :=
  lv_icmp_ge (tgt := tgt) F.1 F.2.1 hd ht (fun h => kt (by rw [Int32.le_iff_toInt_le, nI_toInt ha, nI_toInt hb] at h; omega)) (fun h => kf (by rw [Int32.le_iff_toInt_le, nI_toInt ha, nI_toInt hb] at h; omega))
end KT

abbrev mX0_init : mm_I := (yX0_init, cX0_init, 1, none, 1)

abbrev mX1_init : mm_I := (yX1_init, cX1_init, 1, none, 2)

abbrev mX2_init : mm_I := (yX2_init, cX2_init, 1, none, 1)

abbrev mX3_init : mm_I := (yX3_init, cX3_init, 2, none, 1)

abbrev mX4_init : mm_I := (yX4_init, cX4_init, 1, none, 1)

abbrev mX5_init : mm_I := (yX5_init, cX5_init, 1, none, 1)

abbrev mX6_init : mm_I := (yX6_init, cX6_init, 1, none, 1)

abbrev mX8_init : mm_I := (yX8_init, cX8_init, 2, none, 1)

set_option maxHeartbeats 4000000 in
set_option maxRecDepth 100000 in
theorem c_X0_init (z : ct_T) (sa : Nat → Nat) : ct_Con z sa mX0_init 0 [.long 0] [0] 0 0 0 (fun M => zX_d zs0 M) := by
  intro h0 sz
  refine Met.ofW (cc := cX0_init) (maxL := 1) (ret := none) (by decide +kernel) rfl ?_
  intro p e s m args below meth c s₁ B hml hv
  obtain ⟨rfl, hsz, hP, hK, hN, hNn⟩ := hv
  have hx := B.exec
  have hb := B.bytes
  have hr := B.returns
  have hts : ∀ w ∈ GW, w.before [Value.ref h0].toArray s = true := fun w hw => atoms_spec (ws := mm_ws mX0_init) B.pre w (List.mem_cons_of_mem _ hw)
  have hown : s.vm.findClass RX0 = some m.cls := findClass_of_methodNamed B.named
  have hlocks := B.notSynchronized
  have hin : meth.name = "<init>" := (name_of_methodNamed B.named B.method).1
  subst hsz
  have hA : ∀ q : Nat, s.heap.size ≤ q → ct_A h0 s.heap.size q := fun q h => Or.inr h
  have hD : va_D (ct_A h0 s.heap.size) [(h0, .inr (0, [.long 0]))] := ct_one
  have hS : va_S (ct_A h0 s.heap.size) s.heap s.heap [] := va_S.rf
  have F : CallFix p m c cX0_init 1 s [Value.ref h0].toArray GW RX0 := ⟨hx, hb, hml, hown, hts⟩
  have hl := lv_entry ([.ref h0]) (n := 1) (Nat.le_of_ble_eq_true rfl)
  rw [lg_entry_eq]
  generalize (lg_sl ([.ref h0]) ++ List.replicate (1 - (lg_sl ([.ref h0])).length) Slot.unset).toArray = ls at hl ⊢
  have hl : lv_has ls 1 [(0, .ref h0)] := hl
  skip
  have hP : va_P z.1 vwCl [(h0, .inr (0, [.long 0]))] s.heap := hP
  refine lv_aload_n hx hb dX0_init_0 rfl (lv_at hl 0 rfl) ?_
  refine W.objInit hx hb hown (hts _ wm_3_9) (hts _ wm_1_11) (hts _ wm_1_12) rfl (by rw [hml]; exact hl.1) rfl dX0_init_1 (Nat.le_of_ble_eq_true rfl) (Nat.le_of_ble_eq_true rfl) ?_
  refine W.eq (g2 := F0 m 4 ls []) rfl ?_
  have hP : va_P z.1 vwCl [(h0, .inr (0, [.long 0]))] s.heap := hP
  skip
  exact W.vret hx hb hr (fun t ht hW => ⟨⟨ct_ad [(0, h0)] sa, ct_M0, rfl, rfl, ct_ad_hi _ (by intro x hx1; simp only [List.mem_cons, List.not_mem_nil, or_false] at hx1; rcases hx1 with rfl; exact Nat.le_of_ble_eq_true rfl), rfl, by rw [ht]; exact hP, ct_ap (z := z) (ad := ct_ad [(0, h0)] sa) (M := ct_M0) (by decide) hD, ct_fresh (z := z) (ad := ct_ad [(0, h0)] sa) (M := ct_M0) (h0 := h0) rfl (by decide) (ct_ap (z := z) (ad := ct_ad [(0, h0)] sa) (M := ct_M0) (by decide) hD) hD⟩, hS.F ht⟩) hS.2.2 dX0_init_4

set_option maxHeartbeats 4000000 in
set_option maxRecDepth 100000 in
theorem c_X2_init (z : ct_T) (sa : Nat → Nat) : ct_Con z sa mX2_init 2 [.null, .int 0] [2, 11] 2 1 8 (fun M => zX_l zs0 M) := by
  intro h0 sz
  refine Met.ofW (cc := cX2_init) (maxL := 1) (ret := none) (by decide +kernel) rfl ?_
  intro p e s m args below meth c s₁ B hml hv
  obtain ⟨rfl, hsz, hP, hK, hN, hNn⟩ := hv
  have hx := B.exec
  have hb := B.bytes
  have hr := B.returns
  have hts : ∀ w ∈ GW, w.before [Value.ref h0].toArray s = true := fun w hw => atoms_spec (ws := mm_ws mX2_init) B.pre w (List.mem_cons_of_mem _ hw)
  have hown : s.vm.findClass RX2 = some m.cls := findClass_of_methodNamed B.named
  have hlocks := B.notSynchronized
  have hin : meth.name = "<init>" := (name_of_methodNamed B.named B.method).1
  subst hsz
  have hA : ∀ q : Nat, s.heap.size ≤ q → ct_A h0 s.heap.size q := fun q h => Or.inr h
  have hD : va_D (ct_A h0 s.heap.size) [(h0, .inr (2, [.null, .int 0]))] := ct_one
  have hS : va_S (ct_A h0 s.heap.size) s.heap s.heap [] := va_S.rf
  have F : CallFix p m c cX2_init 1 s [Value.ref h0].toArray GW RX2 := ⟨hx, hb, hml, hown, hts⟩
  have hl := lv_entry ([.ref h0]) (n := 1) (Nat.le_of_ble_eq_true rfl)
  rw [lg_entry_eq]
  generalize (lg_sl ([.ref h0]) ++ List.replicate (1 - (lg_sl ([.ref h0])).length) Slot.unset).toArray = ls at hl ⊢
  have hl : lv_has ls 1 [(0, .ref h0)] := hl
  skip
  have hP : va_P z.1 vwCl [(h0, .inr (2, [.null, .int 0]))] s.heap := hP
  refine lv_aload_n hx hb dX2_init_0 rfl (lv_at hl 0 rfl) ?_
  refine W.objInit hx hb hown (hts _ wm_3_21) (hts _ wm_1_11) (hts _ wm_1_12) rfl (by rw [hml]; exact hl.1) rfl dX2_init_1 (Nat.le_of_ble_eq_true rfl) (Nat.le_of_ble_eq_true rfl) ?_
  refine W.eq (g2 := F0 m 4 ls []) rfl ?_
  refine lv_aload_n hx hb dX2_init_4 rfl (lv_at hl 0 rfl) ?_
  refine lv_bipush (v := nI 8) hx hb dX2_init_5 (by decide) ?_
  refine ct_newa (a0 := (8, .inl (fun _ => 0))) (ty := .int) (atype := .int) (t0 := 0) (N' := 8) hx hb (hts _ wm_2_21) rfl (Or.inl rfl) hK hP hD hS hA rfl (fun _ => rfl) (by decide) (by decide) (Nat.le_of_ble_eq_true rfl) (Nat.le_of_ble_eq_true rfl) (Nat.le_of_ble_eq_true rfl) dX2_init_7 (fun q1 H hP hD hS => ?_)
  have hP : va_P z.1 vwCl [(h0, .inr (2, [.null, .int 0])), (q1, .inl (z.2.1.1, 8, .inl (fun _ => 0)))] H := hP
  have hD : va_D (ct_A h0 s.heap.size) [(h0, .inr (2, [.null, .int 0])), (q1, .inl (z.2.1.1, 8, .inl (fun _ => 0)))] := hD
  refine va_putF (D := z.1) (tys := ct_ty z) (ci := 2) (v := .ref q1) (ty := tyX2 0) (C := RX2) (T := TX2) (N := 2) hx hb hts inlX2 tyX2 tyX2_ok nmX2 hown hK hP hD hS 0 rfl rfl 0 (by decide) (hts _ wm_3_22) (fun _ h9 => h9) rfl hin rfl (tyX2_ok 0 (by decide)) rfl rfl (Nat.le_of_ble_eq_true rfl) dX2_init_9 (fun H locs hP hD hS => ?_)
  have hP : va_P z.1 vwCl [(h0, .inr (2, [.ref q1, .int 0])), (q1, .inl (z.2.1.1, 8, .inl (fun _ => 0)))] H := hP
  have hD : va_D (ct_A h0 s.heap.size) [(h0, .inr (2, [.ref q1, .int 0])), (q1, .inl (z.2.1.1, 8, .inl (fun _ => 0)))] := hD
  have hhi : ∀ c, 100 ≤ c → (ct_ad [(2, h0), (11, q1)] sa) c = sa c := ct_ad_hi _ (by intro x hx1; simp only [List.mem_cons, List.not_mem_nil, or_false] at hx1; rcases hx1 with rfl | rfl <;> exact Nat.le_of_ble_eq_true rfl)
  skip
  have hPw : va_P z.1 vwCl (mm_wd (ct_E z (ct_ad [(2, h0), (11, q1)] sa) [2, 11]) ct_M0) H := hP
  have hD : va_D (ct_A h0 s.heap.size) (mm_wd (ct_E z (ct_ad [(2, h0), (11, q1)] sa) [2, 11]) ct_M0) := hD
  have hap := ct_ap (z := z) (ad := (ct_ad [(2, h0), (11, q1)] sa)) (by decide) hD
  have hfr := ct_fresh (z := z) (ad := (ct_ad [(2, h0), (11, q1)] sa)) (c0 := 2) (h0 := h0) rfl (by decide) hap hD
  have hAE := ct_AE hD
  have hN := mm_N.ad (E := ct_E z sa []) (F := (ct_E z (ct_ad [(2, h0), (11, q1)] sa) [2, 11])) hhi hN
  have hadr : (ct_ad [(2, h0), (11, q1)] sa) 2 = h0 := rfl
  generalize (ct_ad [(2, h0), (11, q1)] sa) = ad at hhi hPw hD hap hfr hAE hN hadr
  subst hadr
  have hP := hPw
  exact W.vret hx hb hr (fun t ht hW => ⟨⟨ad, ct_M0, rfl, rfl, hhi, ⟨rfl, fun l hl => absurd hl (Nat.not_lt_zero _)⟩, by rw [ht]; exact hP, hap, hfr⟩, hS.F ht⟩) hS.2.2 dX2_init_12

set_option maxHeartbeats 4000000 in
set_option maxRecDepth 100000 in
theorem c_X4_init (z : ct_T) (sa : Nat → Nat) : ct_Con z sa mX4_init 4 [.null, .null, .null, .null, .null, .int 0] [4, 20, 21, 22, 23, 24] 4 5 120 (fun M => zX_p zs0 M) := by
  intro h0 sz
  refine Met.ofW (cc := cX4_init) (maxL := 1) (ret := none) (by decide +kernel) rfl ?_
  intro p e s m args below meth c s₁ B hml hv
  obtain ⟨rfl, hsz, hP, hK, hN, hNn⟩ := hv
  have hx := B.exec
  have hb := B.bytes
  have hr := B.returns
  have hts : ∀ w ∈ GW, w.before [Value.ref h0].toArray s = true := fun w hw => atoms_spec (ws := mm_ws mX4_init) B.pre w (List.mem_cons_of_mem _ hw)
  have hown : s.vm.findClass RX4 = some m.cls := findClass_of_methodNamed B.named
  have hlocks := B.notSynchronized
  have hin : meth.name = "<init>" := (name_of_methodNamed B.named B.method).1
  subst hsz
  have hA : ∀ q : Nat, s.heap.size ≤ q → ct_A h0 s.heap.size q := fun q h => Or.inr h
  have hD : va_D (ct_A h0 s.heap.size) [(h0, .inr (4, [.null, .null, .null, .null, .null, .int 0]))] := ct_one
  have hS : va_S (ct_A h0 s.heap.size) s.heap s.heap [] := va_S.rf
  have F : CallFix p m c cX4_init 1 s [Value.ref h0].toArray GW RX4 := ⟨hx, hb, hml, hown, hts⟩
  have hl := lv_entry ([.ref h0]) (n := 1) (Nat.le_of_ble_eq_true rfl)
  rw [lg_entry_eq]
  generalize (lg_sl ([.ref h0]) ++ List.replicate (1 - (lg_sl ([.ref h0])).length) Slot.unset).toArray = ls at hl ⊢
  have hl : lv_has ls 1 [(0, .ref h0)] := hl
  skip
  have hP : va_P z.1 vwCl [(h0, .inr (4, [.null, .null, .null, .null, .null, .int 0]))] s.heap := hP
  refine lv_aload_n hx hb dX4_init_0 rfl (lv_at hl 0 rfl) ?_
  refine W.objInit hx hb hown (hts _ wm_3_12) (hts _ wm_1_11) (hts _ wm_1_12) rfl (by rw [hml]; exact hl.1) rfl dX4_init_1 (Nat.le_of_ble_eq_true rfl) (Nat.le_of_ble_eq_true rfl) ?_
  refine W.eq (g2 := F0 m 4 ls []) rfl ?_
  refine lv_aload_n hx hb dX4_init_4 rfl (lv_at hl 0 rfl) ?_
  refine lv_bipush (v := nI 24) hx hb dX4_init_5 (by decide) ?_
  refine ct_newa (a0 := (24, .inl (fun _ => 0))) (ty := .int) (atype := .int) (t0 := 0) (N' := 24) hx hb (hts _ wm_2_21) rfl (Or.inl rfl) hK hP hD hS hA rfl (fun _ => rfl) (by decide) (by decide) (Nat.le_of_ble_eq_true rfl) (Nat.le_of_ble_eq_true rfl) (Nat.le_of_ble_eq_true rfl) dX4_init_7 (fun q1 H hP hD hS => ?_)
  have hP : va_P z.1 vwCl [(h0, .inr (4, [.null, .null, .null, .null, .null, .int 0])), (q1, .inl (z.2.1.1, 24, .inl (fun _ => 0)))] H := hP
  have hD : va_D (ct_A h0 s.heap.size) [(h0, .inr (4, [.null, .null, .null, .null, .null, .int 0])), (q1, .inl (z.2.1.1, 24, .inl (fun _ => 0)))] := hD
  refine va_putF (D := z.1) (tys := ct_ty z) (ci := 4) (v := .ref q1) (ty := tyX4 0) (C := RX4) (T := TX4) (N := 6) hx hb hts inlX4 tyX4 tyX4_ok nmX4 hown hK hP hD hS 0 rfl rfl 0 (by decide) (hts _ wm_3_13) (fun _ h9 => h9) rfl hin rfl (tyX4_ok 0 (by decide)) rfl rfl (Nat.le_of_ble_eq_true rfl) dX4_init_9 (fun H locs hP hD hS => ?_)
  have hP : va_P z.1 vwCl [(h0, .inr (4, [.ref q1, .null, .null, .null, .null, .int 0])), (q1, .inl (z.2.1.1, 24, .inl (fun _ => 0)))] H := hP
  have hD : va_D (ct_A h0 s.heap.size) [(h0, .inr (4, [.ref q1, .null, .null, .null, .null, .int 0])), (q1, .inl (z.2.1.1, 24, .inl (fun _ => 0)))] := hD
  refine lv_aload_n hx hb dX4_init_12 rfl (lv_at hl 0 rfl) ?_
  refine lv_bipush (v := nI 24) hx hb dX4_init_13 (by decide) ?_
  refine ct_newa (a0 := (24, .inl (fun _ => 0))) (ty := .int) (atype := .int) (t0 := 0) (N' := 24) hx hb (hts _ wm_2_21) rfl (Or.inl rfl) hK hP hD hS hA rfl (fun _ => rfl) (by decide) (by decide) (Nat.le_of_ble_eq_true rfl) (Nat.le_of_ble_eq_true rfl) (Nat.le_of_ble_eq_true rfl) dX4_init_15 (fun q2 H hP hD hS => ?_)
  have hP : va_P z.1 vwCl [(h0, .inr (4, [.ref q1, .null, .null, .null, .null, .int 0])), (q1, .inl (z.2.1.1, 24, .inl (fun _ => 0))), (q2, .inl (z.2.1.1, 24, .inl (fun _ => 0)))] H := hP
  have hD : va_D (ct_A h0 s.heap.size) [(h0, .inr (4, [.ref q1, .null, .null, .null, .null, .int 0])), (q1, .inl (z.2.1.1, 24, .inl (fun _ => 0))), (q2, .inl (z.2.1.1, 24, .inl (fun _ => 0)))] := hD
  refine va_putF (D := z.1) (tys := ct_ty z) (ci := 4) (v := .ref q2) (ty := tyX4 1) (C := RX4) (T := TX4) (N := 6) hx hb hts inlX4 tyX4 tyX4_ok nmX4 hown hK hP hD hS 0 rfl rfl 1 (by decide) (hts _ wm_3_14) (fun _ h9 => h9) rfl hin rfl (tyX4_ok 1 (by decide)) rfl rfl (Nat.le_of_ble_eq_true rfl) dX4_init_17 (fun H locs hP hD hS => ?_)
  have hP : va_P z.1 vwCl [(h0, .inr (4, [.ref q1, .ref q2, .null, .null, .null, .int 0])), (q1, .inl (z.2.1.1, 24, .inl (fun _ => 0))), (q2, .inl (z.2.1.1, 24, .inl (fun _ => 0)))] H := hP
  have hD : va_D (ct_A h0 s.heap.size) [(h0, .inr (4, [.ref q1, .ref q2, .null, .null, .null, .int 0])), (q1, .inl (z.2.1.1, 24, .inl (fun _ => 0))), (q2, .inl (z.2.1.1, 24, .inl (fun _ => 0)))] := hD
  refine lv_aload_n hx hb dX4_init_20 rfl (lv_at hl 0 rfl) ?_
  refine lv_bipush (v := nI 24) hx hb dX4_init_21 (by decide) ?_
  refine ct_newa (a0 := (24, .inl (fun _ => 0))) (ty := .int) (atype := .int) (t0 := 0) (N' := 24) hx hb (hts _ wm_2_21) rfl (Or.inl rfl) hK hP hD hS hA rfl (fun _ => rfl) (by decide) (by decide) (Nat.le_of_ble_eq_true rfl) (Nat.le_of_ble_eq_true rfl) (Nat.le_of_ble_eq_true rfl) dX4_init_23 (fun q3 H hP hD hS => ?_)
  have hP : va_P z.1 vwCl [(h0, .inr (4, [.ref q1, .ref q2, .null, .null, .null, .int 0])), (q1, .inl (z.2.1.1, 24, .inl (fun _ => 0))), (q2, .inl (z.2.1.1, 24, .inl (fun _ => 0))), (q3, .inl (z.2.1.1, 24, .inl (fun _ => 0)))] H := hP
  have hD : va_D (ct_A h0 s.heap.size) [(h0, .inr (4, [.ref q1, .ref q2, .null, .null, .null, .int 0])), (q1, .inl (z.2.1.1, 24, .inl (fun _ => 0))), (q2, .inl (z.2.1.1, 24, .inl (fun _ => 0))), (q3, .inl (z.2.1.1, 24, .inl (fun _ => 0)))] := hD
  refine va_putF (D := z.1) (tys := ct_ty z) (ci := 4) (v := .ref q3) (ty := tyX4 2) (C := RX4) (T := TX4) (N := 6) hx hb hts inlX4 tyX4 tyX4_ok nmX4 hown hK hP hD hS 0 rfl rfl 2 (by decide) (hts _ wm_3_15) (fun _ h9 => h9) rfl hin rfl (tyX4_ok 2 (by decide)) rfl rfl (Nat.le_of_ble_eq_true rfl) dX4_init_25 (fun H locs hP hD hS => ?_)
  have hP : va_P z.1 vwCl [(h0, .inr (4, [.ref q1, .ref q2, .ref q3, .null, .null, .int 0])), (q1, .inl (z.2.1.1, 24, .inl (fun _ => 0))), (q2, .inl (z.2.1.1, 24, .inl (fun _ => 0))), (q3, .inl (z.2.1.1, 24, .inl (fun _ => 0)))] H := hP
  have hD : va_D (ct_A h0 s.heap.size) [(h0, .inr (4, [.ref q1, .ref q2, .ref q3, .null, .null, .int 0])), (q1, .inl (z.2.1.1, 24, .inl (fun _ => 0))), (q2, .inl (z.2.1.1, 24, .inl (fun _ => 0))), (q3, .inl (z.2.1.1, 24, .inl (fun _ => 0)))] := hD
  refine lv_aload_n hx hb dX4_init_28 rfl (lv_at hl 0 rfl) ?_
  refine lv_bipush (v := nI 24) hx hb dX4_init_29 (by decide) ?_
  refine ct_newa (a0 := (24, .inl (fun _ => 0))) (ty := .int) (atype := .int) (t0 := 0) (N' := 24) hx hb (hts _ wm_2_21) rfl (Or.inl rfl) hK hP hD hS hA rfl (fun _ => rfl) (by decide) (by decide) (Nat.le_of_ble_eq_true rfl) (Nat.le_of_ble_eq_true rfl) (Nat.le_of_ble_eq_true rfl) dX4_init_31 (fun q4 H hP hD hS => ?_)
  have hP : va_P z.1 vwCl [(h0, .inr (4, [.ref q1, .ref q2, .ref q3, .null, .null, .int 0])), (q1, .inl (z.2.1.1, 24, .inl (fun _ => 0))), (q2, .inl (z.2.1.1, 24, .inl (fun _ => 0))), (q3, .inl (z.2.1.1, 24, .inl (fun _ => 0))), (q4, .inl (z.2.1.1, 24, .inl (fun _ => 0)))] H := hP
  have hD : va_D (ct_A h0 s.heap.size) [(h0, .inr (4, [.ref q1, .ref q2, .ref q3, .null, .null, .int 0])), (q1, .inl (z.2.1.1, 24, .inl (fun _ => 0))), (q2, .inl (z.2.1.1, 24, .inl (fun _ => 0))), (q3, .inl (z.2.1.1, 24, .inl (fun _ => 0))), (q4, .inl (z.2.1.1, 24, .inl (fun _ => 0)))] := hD
  refine va_putF (D := z.1) (tys := ct_ty z) (ci := 4) (v := .ref q4) (ty := tyX4 3) (C := RX4) (T := TX4) (N := 6) hx hb hts inlX4 tyX4 tyX4_ok nmX4 hown hK hP hD hS 0 rfl rfl 3 (by decide) (hts _ wm_3_16) (fun _ h9 => h9) rfl hin rfl (tyX4_ok 3 (by decide)) rfl rfl (Nat.le_of_ble_eq_true rfl) dX4_init_33 (fun H locs hP hD hS => ?_)
  have hP : va_P z.1 vwCl [(h0, .inr (4, [.ref q1, .ref q2, .ref q3, .ref q4, .null, .int 0])), (q1, .inl (z.2.1.1, 24, .inl (fun _ => 0))), (q2, .inl (z.2.1.1, 24, .inl (fun _ => 0))), (q3, .inl (z.2.1.1, 24, .inl (fun _ => 0))), (q4, .inl (z.2.1.1, 24, .inl (fun _ => 0)))] H := hP
  have hD : va_D (ct_A h0 s.heap.size) [(h0, .inr (4, [.ref q1, .ref q2, .ref q3, .ref q4, .null, .int 0])), (q1, .inl (z.2.1.1, 24, .inl (fun _ => 0))), (q2, .inl (z.2.1.1, 24, .inl (fun _ => 0))), (q3, .inl (z.2.1.1, 24, .inl (fun _ => 0))), (q4, .inl (z.2.1.1, 24, .inl (fun _ => 0)))] := hD
  refine lv_aload_n hx hb dX4_init_36 rfl (lv_at hl 0 rfl) ?_
  refine lv_bipush (v := nI 24) hx hb dX4_init_37 (by decide) ?_
  refine ct_newa (a0 := (24, .inl (fun _ => 0))) (ty := .boolean) (atype := .boolean) (t0 := 2) (N' := 24) hx hb (hts _ wm_3_17) rfl (Or.inr (Or.inr rfl)) hK hP hD hS hA rfl (fun _ => rfl) (by decide) (by decide) (Nat.le_of_ble_eq_true rfl) (Nat.le_of_ble_eq_true rfl) (Nat.le_of_ble_eq_true rfl) dX4_init_39 (fun q5 H hP hD hS => ?_)
  have hP : va_P z.1 vwCl [(h0, .inr (4, [.ref q1, .ref q2, .ref q3, .ref q4, .null, .int 0])), (q1, .inl (z.2.1.1, 24, .inl (fun _ => 0))), (q2, .inl (z.2.1.1, 24, .inl (fun _ => 0))), (q3, .inl (z.2.1.1, 24, .inl (fun _ => 0))), (q4, .inl (z.2.1.1, 24, .inl (fun _ => 0))), (q5, .inl (z.2.1.2.2, 24, .inl (fun _ => 0)))] H := hP
  have hD : va_D (ct_A h0 s.heap.size) [(h0, .inr (4, [.ref q1, .ref q2, .ref q3, .ref q4, .null, .int 0])), (q1, .inl (z.2.1.1, 24, .inl (fun _ => 0))), (q2, .inl (z.2.1.1, 24, .inl (fun _ => 0))), (q3, .inl (z.2.1.1, 24, .inl (fun _ => 0))), (q4, .inl (z.2.1.1, 24, .inl (fun _ => 0))), (q5, .inl (z.2.1.2.2, 24, .inl (fun _ => 0)))] := hD
  refine va_putF (D := z.1) (tys := ct_ty z) (ci := 4) (v := .ref q5) (ty := tyX4 4) (C := RX4) (T := TX4) (N := 6) hx hb hts inlX4 tyX4 tyX4_ok nmX4 hown hK hP hD hS 0 rfl rfl 4 (by decide) (hts _ wm_3_18) (fun _ h9 => h9) rfl hin rfl (tyX4_ok 4 (by decide)) rfl rfl (Nat.le_of_ble_eq_true rfl) dX4_init_41 (fun H locs hP hD hS => ?_)
  have hP : va_P z.1 vwCl [(h0, .inr (4, [.ref q1, .ref q2, .ref q3, .ref q4, .ref q5, .int 0])), (q1, .inl (z.2.1.1, 24, .inl (fun _ => 0))), (q2, .inl (z.2.1.1, 24, .inl (fun _ => 0))), (q3, .inl (z.2.1.1, 24, .inl (fun _ => 0))), (q4, .inl (z.2.1.1, 24, .inl (fun _ => 0))), (q5, .inl (z.2.1.2.2, 24, .inl (fun _ => 0)))] H := hP
  have hD : va_D (ct_A h0 s.heap.size) [(h0, .inr (4, [.ref q1, .ref q2, .ref q3, .ref q4, .ref q5, .int 0])), (q1, .inl (z.2.1.1, 24, .inl (fun _ => 0))), (q2, .inl (z.2.1.1, 24, .inl (fun _ => 0))), (q3, .inl (z.2.1.1, 24, .inl (fun _ => 0))), (q4, .inl (z.2.1.1, 24, .inl (fun _ => 0))), (q5, .inl (z.2.1.2.2, 24, .inl (fun _ => 0)))] := hD
  have hhi : ∀ c, 100 ≤ c → (ct_ad [(4, h0), (20, q1), (21, q2), (22, q3), (23, q4), (24, q5)] sa) c = sa c := ct_ad_hi _ (by intro x hx1; simp only [List.mem_cons, List.not_mem_nil, or_false] at hx1; rcases hx1 with rfl | rfl | rfl | rfl | rfl | rfl <;> exact Nat.le_of_ble_eq_true rfl)
  skip
  have hPw : va_P z.1 vwCl (mm_wd (ct_E z (ct_ad [(4, h0), (20, q1), (21, q2), (22, q3), (23, q4), (24, q5)] sa) [4, 20, 21, 22, 23, 24]) ct_M0) H := hP
  have hD : va_D (ct_A h0 s.heap.size) (mm_wd (ct_E z (ct_ad [(4, h0), (20, q1), (21, q2), (22, q3), (23, q4), (24, q5)] sa) [4, 20, 21, 22, 23, 24]) ct_M0) := hD
  have hap := ct_ap (z := z) (ad := (ct_ad [(4, h0), (20, q1), (21, q2), (22, q3), (23, q4), (24, q5)] sa)) (by decide) hD
  have hfr := ct_fresh (z := z) (ad := (ct_ad [(4, h0), (20, q1), (21, q2), (22, q3), (23, q4), (24, q5)] sa)) (c0 := 4) (h0 := h0) rfl (by decide) hap hD
  have hAE := ct_AE hD
  have hN := mm_N.ad (E := ct_E z sa []) (F := (ct_E z (ct_ad [(4, h0), (20, q1), (21, q2), (22, q3), (23, q4), (24, q5)] sa) [4, 20, 21, 22, 23, 24])) hhi hN
  have hadr : (ct_ad [(4, h0), (20, q1), (21, q2), (22, q3), (23, q4), (24, q5)] sa) 4 = h0 := rfl
  generalize (ct_ad [(4, h0), (20, q1), (21, q2), (22, q3), (23, q4), (24, q5)] sa) = ad at hhi hPw hD hap hfr hAE hN hadr
  subst hadr
  have hP := hPw
  exact W.vret hx hb hr (fun t ht hW => ⟨⟨ad, ct_M0, rfl, rfl, hhi, ⟨rfl, fun p hp => absurd hp (Nat.not_lt_zero _)⟩, by rw [ht]; exact hP, hap, hfr⟩, hS.F ht⟩) hS.2.2 dX4_init_44

set_option maxHeartbeats 4000000 in
set_option maxRecDepth 100000 in
theorem c_X1_init (z : ct_T) (sa : Nat → Nat) : ct_Con z sa mX1_init 1 [.null, .null, .null, .int 0, .int 0, .int 0, .int 0] [1, 8, 9, 10] 1 3 176 (fun M => zX_w zs0 M ∧ zX_t zs0 M) := by
  intro h0 sz
  refine Met.ofW (cc := cX1_init) (maxL := 1) (ret := none) (by decide +kernel) rfl ?_
  intro p e s m args below meth c s₁ B hml hv
  obtain ⟨rfl, hsz, hP, hK, hN, hNn⟩ := hv
  have hx := B.exec
  have hb := B.bytes
  have hr := B.returns
  have hts : ∀ w ∈ GW, w.before [Value.ref h0].toArray s = true := fun w hw => atoms_spec (ws := mm_ws mX1_init) B.pre w (List.mem_cons_of_mem _ hw)
  have hown : s.vm.findClass RX1 = some m.cls := findClass_of_methodNamed B.named
  have hlocks := B.notSynchronized
  have hin : meth.name = "<init>" := (name_of_methodNamed B.named B.method).1
  subst hsz
  have hA : ∀ q : Nat, s.heap.size ≤ q → ct_A h0 s.heap.size q := fun q h => Or.inr h
  have hD : va_D (ct_A h0 s.heap.size) [(h0, .inr (1, [.null, .null, .null, .int 0, .int 0, .int 0, .int 0]))] := ct_one
  have hS : va_S (ct_A h0 s.heap.size) s.heap s.heap [] := va_S.rf
  have F : CallFix p m c cX1_init 1 s [Value.ref h0].toArray GW RX1 := ⟨hx, hb, hml, hown, hts⟩
  have hl := lv_entry ([.ref h0]) (n := 1) (Nat.le_of_ble_eq_true rfl)
  rw [lg_entry_eq]
  generalize (lg_sl ([.ref h0]) ++ List.replicate (1 - (lg_sl ([.ref h0])).length) Slot.unset).toArray = ls at hl ⊢
  have hl : lv_has ls 1 [(0, .ref h0)] := hl
  skip
  have hP : va_P z.1 vwCl [(h0, .inr (1, [.null, .null, .null, .int 0, .int 0, .int 0, .int 0]))] s.heap := hP
  refine lv_aload_n hx hb dX1_init_0 rfl (lv_at hl 0 rfl) ?_
  refine W.objInit hx hb hown (hts _ wm_2_20) (hts _ wm_1_11) (hts _ wm_1_12) rfl (by rw [hml]; exact hl.1) rfl dX1_init_1 (Nat.le_of_ble_eq_true rfl) (Nat.le_of_ble_eq_true rfl) ?_
  refine W.eq (g2 := F0 m 4 ls []) rfl ?_
  refine lv_aload_n hx hb dX1_init_4 rfl (lv_at hl 0 rfl) ?_
  refine lv_bipush (v := nI 8) hx hb dX1_init_5 (by decide) ?_
  refine ct_newa (a0 := (8, .inl (fun _ => 0))) (ty := .int) (atype := .int) (t0 := 0) (N' := 8) hx hb (hts _ wm_2_21) rfl (Or.inl rfl) hK hP hD hS hA rfl (fun _ => rfl) (by decide) (by decide) (Nat.le_of_ble_eq_true rfl) (Nat.le_of_ble_eq_true rfl) (Nat.le_of_ble_eq_true rfl) dX1_init_7 (fun q1 H hP hD hS => ?_)
  have hP : va_P z.1 vwCl [(h0, .inr (1, [.null, .null, .null, .int 0, .int 0, .int 0, .int 0])), (q1, .inl (z.2.1.1, 8, .inl (fun _ => 0)))] H := hP
  have hD : va_D (ct_A h0 s.heap.size) [(h0, .inr (1, [.null, .null, .null, .int 0, .int 0, .int 0, .int 0])), (q1, .inl (z.2.1.1, 8, .inl (fun _ => 0)))] := hD
  refine va_putF (D := z.1) (tys := ct_ty z) (ci := 1) (v := .ref q1) (ty := tyX1 0) (C := RX1) (T := TX1) (N := 7) hx hb hts inlX1 tyX1 tyX1_ok nmX1 hown hK hP hD hS 0 rfl rfl 0 (by decide) (hts _ wm_2_22) (fun _ h9 => h9) rfl hin rfl (tyX1_ok 0 (by decide)) rfl rfl (Nat.le_of_ble_eq_true rfl) dX1_init_9 (fun H locs hP hD hS => ?_)
  have hP : va_P z.1 vwCl [(h0, .inr (1, [.ref q1, .null, .null, .int 0, .int 0, .int 0, .int 0])), (q1, .inl (z.2.1.1, 8, .inl (fun _ => 0)))] H := hP
  have hD : va_D (ct_A h0 s.heap.size) [(h0, .inr (1, [.ref q1, .null, .null, .int 0, .int 0, .int 0, .int 0])), (q1, .inl (z.2.1.1, 8, .inl (fun _ => 0)))] := hD
  refine lv_aload_n hx hb dX1_init_12 rfl (lv_at hl 0 rfl) ?_
  refine lv_bipush (v := nI 8) hx hb dX1_init_13 (by decide) ?_
  refine ct_newa (a0 := (8, .inl (fun _ => 0))) (ty := .int) (atype := .int) (t0 := 0) (N' := 8) hx hb (hts _ wm_2_21) rfl (Or.inl rfl) hK hP hD hS hA rfl (fun _ => rfl) (by decide) (by decide) (Nat.le_of_ble_eq_true rfl) (Nat.le_of_ble_eq_true rfl) (Nat.le_of_ble_eq_true rfl) dX1_init_15 (fun q2 H hP hD hS => ?_)
  have hP : va_P z.1 vwCl [(h0, .inr (1, [.ref q1, .null, .null, .int 0, .int 0, .int 0, .int 0])), (q1, .inl (z.2.1.1, 8, .inl (fun _ => 0))), (q2, .inl (z.2.1.1, 8, .inl (fun _ => 0)))] H := hP
  have hD : va_D (ct_A h0 s.heap.size) [(h0, .inr (1, [.ref q1, .null, .null, .int 0, .int 0, .int 0, .int 0])), (q1, .inl (z.2.1.1, 8, .inl (fun _ => 0))), (q2, .inl (z.2.1.1, 8, .inl (fun _ => 0)))] := hD
  refine va_putF (D := z.1) (tys := ct_ty z) (ci := 1) (v := .ref q2) (ty := tyX1 1) (C := RX1) (T := TX1) (N := 7) hx hb hts inlX1 tyX1 tyX1_ok nmX1 hown hK hP hD hS 0 rfl rfl 1 (by decide) (hts _ wm_2_23) (fun _ h9 => h9) rfl hin rfl (tyX1_ok 1 (by decide)) rfl rfl (Nat.le_of_ble_eq_true rfl) dX1_init_17 (fun H locs hP hD hS => ?_)
  have hP : va_P z.1 vwCl [(h0, .inr (1, [.ref q1, .ref q2, .null, .int 0, .int 0, .int 0, .int 0])), (q1, .inl (z.2.1.1, 8, .inl (fun _ => 0))), (q2, .inl (z.2.1.1, 8, .inl (fun _ => 0)))] H := hP
  have hD : va_D (ct_A h0 s.heap.size) [(h0, .inr (1, [.ref q1, .ref q2, .null, .int 0, .int 0, .int 0, .int 0])), (q1, .inl (z.2.1.1, 8, .inl (fun _ => 0))), (q2, .inl (z.2.1.1, 8, .inl (fun _ => 0)))] := hD
  refine lv_aload_n hx hb dX1_init_20 rfl (lv_at hl 0 rfl) ?_
  refine lv_sipush (v := nI 160) hx hb dX1_init_21 (by decide) ?_
  refine ct_newa (a0 := (160, .inl (fun _ => 0))) (ty := .int) (atype := .int) (t0 := 0) (N' := 160) hx hb (hts _ wm_2_21) rfl (Or.inl rfl) hK hP hD hS hA rfl (fun _ => rfl) (by decide) (by decide) (Nat.le_of_ble_eq_true rfl) (Nat.le_of_ble_eq_true rfl) (Nat.le_of_ble_eq_true rfl) dX1_init_24 (fun q3 H hP hD hS => ?_)
  have hP : va_P z.1 vwCl [(h0, .inr (1, [.ref q1, .ref q2, .null, .int 0, .int 0, .int 0, .int 0])), (q1, .inl (z.2.1.1, 8, .inl (fun _ => 0))), (q2, .inl (z.2.1.1, 8, .inl (fun _ => 0))), (q3, .inl (z.2.1.1, 160, .inl (fun _ => 0)))] H := hP
  have hD : va_D (ct_A h0 s.heap.size) [(h0, .inr (1, [.ref q1, .ref q2, .null, .int 0, .int 0, .int 0, .int 0])), (q1, .inl (z.2.1.1, 8, .inl (fun _ => 0))), (q2, .inl (z.2.1.1, 8, .inl (fun _ => 0))), (q3, .inl (z.2.1.1, 160, .inl (fun _ => 0)))] := hD
  refine va_putF (D := z.1) (tys := ct_ty z) (ci := 1) (v := .ref q3) (ty := tyX1 2) (C := RX1) (T := TX1) (N := 7) hx hb hts inlX1 tyX1 tyX1_ok nmX1 hown hK hP hD hS 0 rfl rfl 2 (by decide) (hts _ wm_3_0) (fun _ h9 => h9) rfl hin rfl (tyX1_ok 2 (by decide)) rfl rfl (Nat.le_of_ble_eq_true rfl) dX1_init_26 (fun H locs hP hD hS => ?_)
  have hP : va_P z.1 vwCl [(h0, .inr (1, [.ref q1, .ref q2, .ref q3, .int 0, .int 0, .int 0, .int 0])), (q1, .inl (z.2.1.1, 8, .inl (fun _ => 0))), (q2, .inl (z.2.1.1, 8, .inl (fun _ => 0))), (q3, .inl (z.2.1.1, 160, .inl (fun _ => 0)))] H := hP
  have hD : va_D (ct_A h0 s.heap.size) [(h0, .inr (1, [.ref q1, .ref q2, .ref q3, .int 0, .int 0, .int 0, .int 0])), (q1, .inl (z.2.1.1, 8, .inl (fun _ => 0))), (q2, .inl (z.2.1.1, 8, .inl (fun _ => 0))), (q3, .inl (z.2.1.1, 160, .inl (fun _ => 0)))] := hD
  obtain ⟨tb, hz, ht0⟩ := hN.2.1
  refine va_gets hx hb hz hS hown (hts _ wm_3_1) (fun _ h => h) dX1_init_29 ?_
  refine lv_iconst (v := nI 0) hx hb dX1_init_32 (by decide) ?_
  refine lv_aload_n hx hb dX1_init_33 rfl (lv_at hl 0 rfl) ?_
  refine va_get (tys := ct_ty z) (C := RX1) (T := TX1) (N := 7) hx hb hts inlX1 hown hK hP 0 rfl rfl 0 (by decide) (hts _ wm_2_22) (fun _ h => h) rfl dX1_init_34 ?_
  refine lv_iconst (v := nI 0) hx hb dX1_init_37 (by decide) ?_
  refine lv_bipush (v := nI 8) hx hb dX1_init_38 (by decide) ?_
  refine ct_copy (tys := ct_ty z) hx hb (hml.trans hl.1.symm) hown (hts _ wm_3_2) (hts _ wm_3_3) (hts _ wm_3_4) (hts _ wm_3_5) hK hP hD hS ht0 1 0 rfl rfl (by decide) (by decide) (by decide) (by decide) (by decide) (Nat.le_of_ble_eq_true rfl) (Nat.le_of_ble_eq_true rfl) dX1_init_40 (fun H locs hP hD hS => ?_)
  have hP : va_P z.1 vwCl [(h0, .inr (1, [.ref q1, .ref q2, .ref q3, .int 0, .int 0, .int 0, .int 0])), (q1, .inl (z.2.1.1, 8, .inl (va_cpy mm_first (fun _ => 0) (nI 0).toNatClampNeg (nI 0).toNatClampNeg (nI 8).toNatClampNeg))), (q2, .inl (z.2.1.1, 8, .inl (fun _ => 0))), (q3, .inl (z.2.1.1, 160, .inl (fun _ => 0)))] H := hP
  have hD : va_D (ct_A h0 s.heap.size) [(h0, .inr (1, [.ref q1, .ref q2, .ref q3, .int 0, .int 0, .int 0, .int 0])), (q1, .inl (z.2.1.1, 8, .inl (va_cpy mm_first (fun _ => 0) (nI 0).toNatClampNeg (nI 0).toNatClampNeg (nI 8).toNatClampNeg))), (q2, .inl (z.2.1.1, 8, .inl (fun _ => 0))), (q3, .inl (z.2.1.1, 160, .inl (fun _ => 0)))] := hD
  refine lv_aload_n hx hb dX1_init_43 rfl (lv_at hl 0 rfl) ?_
  refine lv_iconst (v := -1) hx hb dX1_init_44 (by decide) ?_
  refine va_put (D := z.1) (tys := ct_ty z) (ci := 1) (v := .int (-1)) (ty := tyX1 6) (C := RX1) (T := TX1) (N := 7) hx hb hts inlX1 tyX1 tyX1_ok nmX1 hown hK hP hD hS 0 rfl rfl 6 (by decide) (hts _ wm_3_6) (fun _ h9 => h9) rfl (tyX1_ok 6 (by decide)) rfl rfl (Nat.le_of_ble_eq_true rfl) dX1_init_45 (fun H locs hP hD hS => ?_)
  have hP : va_P z.1 vwCl [(h0, .inr (1, [.ref q1, .ref q2, .ref q3, .int 0, .int 0, .int 0, .int (-1)])), (q1, .inl (z.2.1.1, 8, .inl (va_cpy mm_first (fun _ => 0) (nI 0).toNatClampNeg (nI 0).toNatClampNeg (nI 8).toNatClampNeg))), (q2, .inl (z.2.1.1, 8, .inl (fun _ => 0))), (q3, .inl (z.2.1.1, 160, .inl (fun _ => 0)))] H := hP
  have hD : va_D (ct_A h0 s.heap.size) [(h0, .inr (1, [.ref q1, .ref q2, .ref q3, .int 0, .int 0, .int 0, .int (-1)])), (q1, .inl (z.2.1.1, 8, .inl (va_cpy mm_first (fun _ => 0) (nI 0).toNatClampNeg (nI 0).toNatClampNeg (nI 8).toNatClampNeg))), (q2, .inl (z.2.1.1, 8, .inl (fun _ => 0))), (q3, .inl (z.2.1.1, 160, .inl (fun _ => 0)))] := hD
  have hhi : ∀ c, 100 ≤ c → (ct_ad [(1, h0), (8, q1), (9, q2), (10, q3)] sa) c = sa c := ct_ad_hi _ (by intro x hx1; simp only [List.mem_cons, List.not_mem_nil, or_false] at hx1; rcases hx1 with rfl | rfl | rfl | rfl <;> exact Nat.le_of_ble_eq_true rfl)
  skip
  have hPw : va_P z.1 vwCl (mm_wd (ct_E z (ct_ad [(1, h0), (8, q1), (9, q2), (10, q3)] sa) [1, 8, 9, 10]) (mm_si (mm_si ct_M0 8 (va_cpy mm_first (fun _ => 0) (nI 0).toNatClampNeg (nI 0).toNatClampNeg (nI 8).toNatClampNeg)) 1 (upd (fun _ => 0) 6 (-1)))) H := hP
  have hD : va_D (ct_A h0 s.heap.size) (mm_wd (ct_E z (ct_ad [(1, h0), (8, q1), (9, q2), (10, q3)] sa) [1, 8, 9, 10]) (mm_si (mm_si ct_M0 8 (va_cpy mm_first (fun _ => 0) (nI 0).toNatClampNeg (nI 0).toNatClampNeg (nI 8).toNatClampNeg)) 1 (upd (fun _ => 0) 6 (-1)))) := hD
  have hap := ct_ap (z := z) (ad := (ct_ad [(1, h0), (8, q1), (9, q2), (10, q3)] sa)) (by decide) hD
  have hfr := ct_fresh (z := z) (ad := (ct_ad [(1, h0), (8, q1), (9, q2), (10, q3)] sa)) (c0 := 1) (h0 := h0) rfl (by decide) hap hD
  have hAE := ct_AE hD
  have hN := mm_N.ad (E := ct_E z sa []) (F := (ct_E z (ct_ad [(1, h0), (8, q1), (9, q2), (10, q3)] sa) [1, 8, 9, 10])) hhi hN
  have hadr : (ct_ad [(1, h0), (8, q1), (9, q2), (10, q3)] sa) 1 = h0 := rfl
  generalize (ct_ad [(1, h0), (8, q1), (9, q2), (10, q3)] sa) = ad at hhi hPw hD hap hfr hAE hN hadr
  subst hadr
  have hP := hPw
  exact W.vret hx hb hr (fun t ht hW => ⟨⟨ad, (mm_si (mm_si ct_M0 8 (va_cpy mm_first (fun _ => 0) (nI 0).toNatClampNeg (nI 0).toNatClampNeg (nI 8).toNatClampNeg)) 1 (upd (fun _ => 0) 6 (-1))), rfl, rfl, hhi, ⟨fun j hj => ct_cpy j hj, rfl, fun j hj => absurd hj (Nat.not_lt_zero _), rfl⟩, by rw [ht]; exact hP, hap, hfr⟩, hS.F ht⟩) hS.2.2 dX1_init_48

set_option maxHeartbeats 4000000 in
set_option maxRecDepth 100000 in
theorem c_X5_init (z : ct_T) (sa : Nat → Nat) : ct_Con z sa mX5_init 5 [.null, .null, .null, .null, .null, .int 0, .int 0] [5, 25, 26, 27, 28, 29] 5 5 782 (fun M => zX_q zs0 M) := by
  intro h0 sz
  refine Met.ofW (cc := cX5_init) (maxL := 1) (ret := none) (by decide +kernel) rfl ?_
  intro p e s m args below meth c s₁ B hml hv
  obtain ⟨rfl, hsz, hP, hK, hN, hNn⟩ := hv
  have hx := B.exec
  have hb := B.bytes
  have hr := B.returns
  have hts : ∀ w ∈ GW, w.before [Value.ref h0].toArray s = true := fun w hw => atoms_spec (ws := mm_ws mX5_init) B.pre w (List.mem_cons_of_mem _ hw)
  have hown : s.vm.findClass RX5 = some m.cls := findClass_of_methodNamed B.named
  have hlocks := B.notSynchronized
  have hin : meth.name = "<init>" := (name_of_methodNamed B.named B.method).1
  subst hsz
  have hA : ∀ q : Nat, s.heap.size ≤ q → ct_A h0 s.heap.size q := fun q h => Or.inr h
  have hD : va_D (ct_A h0 s.heap.size) [(h0, .inr (5, [.null, .null, .null, .null, .null, .int 0, .int 0]))] := ct_one
  have hS : va_S (ct_A h0 s.heap.size) s.heap s.heap [] := va_S.rf
  have F : CallFix p m c cX5_init 1 s [Value.ref h0].toArray GW RX5 := ⟨hx, hb, hml, hown, hts⟩
  have hl := lv_entry ([.ref h0]) (n := 1) (Nat.le_of_ble_eq_true rfl)
  rw [lg_entry_eq]
  generalize (lg_sl ([.ref h0]) ++ List.replicate (1 - (lg_sl ([.ref h0])).length) Slot.unset).toArray = ls at hl ⊢
  have hl : lv_has ls 1 [(0, .ref h0)] := hl
  skip
  have hP : va_P z.1 vwCl [(h0, .inr (5, [.null, .null, .null, .null, .null, .int 0, .int 0]))] s.heap := hP
  refine lv_aload_n hx hb dX5_init_0 rfl (lv_at hl 0 rfl) ?_
  refine W.objInit hx hb hown (hts _ wm_5_4) (hts _ wm_1_11) (hts _ wm_1_12) rfl (by rw [hml]; exact hl.1) rfl dX5_init_1 (Nat.le_of_ble_eq_true rfl) (Nat.le_of_ble_eq_true rfl) ?_
  refine W.eq (g2 := F0 m 4 ls []) rfl ?_
  refine lv_aload_n hx hb dX5_init_4 rfl (lv_at hl 0 rfl) ?_
  refine lv_bipush (v := nI 8) hx hb dX5_init_5 (by decide) ?_
  refine ct_newa (a0 := (8, .inl (fun _ => 0))) (ty := .int) (atype := .int) (t0 := 0) (N' := 8) hx hb (hts _ wm_2_21) rfl (Or.inl rfl) hK hP hD hS hA rfl (fun _ => rfl) (by decide) (by decide) (Nat.le_of_ble_eq_true rfl) (Nat.le_of_ble_eq_true rfl) (Nat.le_of_ble_eq_true rfl) dX5_init_7 (fun q1 H hP hD hS => ?_)
  have hP : va_P z.1 vwCl [(h0, .inr (5, [.null, .null, .null, .null, .null, .int 0, .int 0])), (q1, .inl (z.2.1.1, 8, .inl (fun _ => 0)))] H := hP
  have hD : va_D (ct_A h0 s.heap.size) [(h0, .inr (5, [.null, .null, .null, .null, .null, .int 0, .int 0])), (q1, .inl (z.2.1.1, 8, .inl (fun _ => 0)))] := hD
  refine va_putF (D := z.1) (tys := ct_ty z) (ci := 5) (v := .ref q1) (ty := tyX5 0) (C := RX5) (T := TX5) (N := 7) hx hb hts inlX5 tyX5 tyX5_ok nmX5 hown hK hP hD hS 0 rfl rfl 0 (by decide) (hts _ wm_5_5) (fun _ h9 => h9) rfl hin rfl (tyX5_ok 0 (by decide)) rfl rfl (Nat.le_of_ble_eq_true rfl) dX5_init_9 (fun H locs hP hD hS => ?_)
  have hP : va_P z.1 vwCl [(h0, .inr (5, [.ref q1, .null, .null, .null, .null, .int 0, .int 0])), (q1, .inl (z.2.1.1, 8, .inl (fun _ => 0)))] H := hP
  have hD : va_D (ct_A h0 s.heap.size) [(h0, .inr (5, [.ref q1, .null, .null, .null, .null, .int 0, .int 0])), (q1, .inl (z.2.1.1, 8, .inl (fun _ => 0)))] := hD
  refine lv_aload_n hx hb dX5_init_12 rfl (lv_at hl 0 rfl) ?_
  refine lv_bipush (v := nI 6) hx hb dX5_init_13 (by decide) ?_
  refine ct_newa (a0 := (6, .inl (fun _ => 0))) (ty := .int) (atype := .int) (t0 := 0) (N' := 6) hx hb (hts _ wm_2_21) rfl (Or.inl rfl) hK hP hD hS hA rfl (fun _ => rfl) (by decide) (by decide) (Nat.le_of_ble_eq_true rfl) (Nat.le_of_ble_eq_true rfl) (Nat.le_of_ble_eq_true rfl) dX5_init_15 (fun q2 H hP hD hS => ?_)
  have hP : va_P z.1 vwCl [(h0, .inr (5, [.ref q1, .null, .null, .null, .null, .int 0, .int 0])), (q1, .inl (z.2.1.1, 8, .inl (fun _ => 0))), (q2, .inl (z.2.1.1, 6, .inl (fun _ => 0)))] H := hP
  have hD : va_D (ct_A h0 s.heap.size) [(h0, .inr (5, [.ref q1, .null, .null, .null, .null, .int 0, .int 0])), (q1, .inl (z.2.1.1, 8, .inl (fun _ => 0))), (q2, .inl (z.2.1.1, 6, .inl (fun _ => 0)))] := hD
  refine va_putF (D := z.1) (tys := ct_ty z) (ci := 5) (v := .ref q2) (ty := tyX5 1) (C := RX5) (T := TX5) (N := 7) hx hb hts inlX5 tyX5 tyX5_ok nmX5 hown hK hP hD hS 0 rfl rfl 1 (by decide) (hts _ wm_5_6) (fun _ h9 => h9) rfl hin rfl (tyX5_ok 1 (by decide)) rfl rfl (Nat.le_of_ble_eq_true rfl) dX5_init_17 (fun H locs hP hD hS => ?_)
  have hP : va_P z.1 vwCl [(h0, .inr (5, [.ref q1, .ref q2, .null, .null, .null, .int 0, .int 0])), (q1, .inl (z.2.1.1, 8, .inl (fun _ => 0))), (q2, .inl (z.2.1.1, 6, .inl (fun _ => 0)))] H := hP
  have hD : va_D (ct_A h0 s.heap.size) [(h0, .inr (5, [.ref q1, .ref q2, .null, .null, .null, .int 0, .int 0])), (q1, .inl (z.2.1.1, 8, .inl (fun _ => 0))), (q2, .inl (z.2.1.1, 6, .inl (fun _ => 0)))] := hD
  refine lv_aload_n hx hb dX5_init_20 rfl (lv_at hl 0 rfl) ?_
  refine lv_sipush (v := nI 256) hx hb dX5_init_21 (by decide) ?_
  refine ct_newa (a0 := (256, .inl (fun _ => 0))) (ty := .int) (atype := .int) (t0 := 0) (N' := 256) hx hb (hts _ wm_2_21) rfl (Or.inl rfl) hK hP hD hS hA rfl (fun _ => rfl) (by decide) (by decide) (Nat.le_of_ble_eq_true rfl) (Nat.le_of_ble_eq_true rfl) (Nat.le_of_ble_eq_true rfl) dX5_init_24 (fun q3 H hP hD hS => ?_)
  have hP : va_P z.1 vwCl [(h0, .inr (5, [.ref q1, .ref q2, .null, .null, .null, .int 0, .int 0])), (q1, .inl (z.2.1.1, 8, .inl (fun _ => 0))), (q2, .inl (z.2.1.1, 6, .inl (fun _ => 0))), (q3, .inl (z.2.1.1, 256, .inl (fun _ => 0)))] H := hP
  have hD : va_D (ct_A h0 s.heap.size) [(h0, .inr (5, [.ref q1, .ref q2, .null, .null, .null, .int 0, .int 0])), (q1, .inl (z.2.1.1, 8, .inl (fun _ => 0))), (q2, .inl (z.2.1.1, 6, .inl (fun _ => 0))), (q3, .inl (z.2.1.1, 256, .inl (fun _ => 0)))] := hD
  refine va_putF (D := z.1) (tys := ct_ty z) (ci := 5) (v := .ref q3) (ty := tyX5 2) (C := RX5) (T := TX5) (N := 7) hx hb hts inlX5 tyX5 tyX5_ok nmX5 hown hK hP hD hS 0 rfl rfl 2 (by decide) (hts _ wm_5_7) (fun _ h9 => h9) rfl hin rfl (tyX5_ok 2 (by decide)) rfl rfl (Nat.le_of_ble_eq_true rfl) dX5_init_26 (fun H locs hP hD hS => ?_)
  have hP : va_P z.1 vwCl [(h0, .inr (5, [.ref q1, .ref q2, .ref q3, .null, .null, .int 0, .int 0])), (q1, .inl (z.2.1.1, 8, .inl (fun _ => 0))), (q2, .inl (z.2.1.1, 6, .inl (fun _ => 0))), (q3, .inl (z.2.1.1, 256, .inl (fun _ => 0)))] H := hP
  have hD : va_D (ct_A h0 s.heap.size) [(h0, .inr (5, [.ref q1, .ref q2, .ref q3, .null, .null, .int 0, .int 0])), (q1, .inl (z.2.1.1, 8, .inl (fun _ => 0))), (q2, .inl (z.2.1.1, 6, .inl (fun _ => 0))), (q3, .inl (z.2.1.1, 256, .inl (fun _ => 0)))] := hD
  refine lv_aload_n hx hb dX5_init_29 rfl (lv_at hl 0 rfl) ?_
  refine lv_sipush (v := nI 256) hx hb dX5_init_30 (by decide) ?_
  refine ct_newa (a0 := (256, .inl (fun _ => 0))) (ty := .int) (atype := .int) (t0 := 0) (N' := 256) hx hb (hts _ wm_2_21) rfl (Or.inl rfl) hK hP hD hS hA rfl (fun _ => rfl) (by decide) (by decide) (Nat.le_of_ble_eq_true rfl) (Nat.le_of_ble_eq_true rfl) (Nat.le_of_ble_eq_true rfl) dX5_init_33 (fun q4 H hP hD hS => ?_)
  have hP : va_P z.1 vwCl [(h0, .inr (5, [.ref q1, .ref q2, .ref q3, .null, .null, .int 0, .int 0])), (q1, .inl (z.2.1.1, 8, .inl (fun _ => 0))), (q2, .inl (z.2.1.1, 6, .inl (fun _ => 0))), (q3, .inl (z.2.1.1, 256, .inl (fun _ => 0))), (q4, .inl (z.2.1.1, 256, .inl (fun _ => 0)))] H := hP
  have hD : va_D (ct_A h0 s.heap.size) [(h0, .inr (5, [.ref q1, .ref q2, .ref q3, .null, .null, .int 0, .int 0])), (q1, .inl (z.2.1.1, 8, .inl (fun _ => 0))), (q2, .inl (z.2.1.1, 6, .inl (fun _ => 0))), (q3, .inl (z.2.1.1, 256, .inl (fun _ => 0))), (q4, .inl (z.2.1.1, 256, .inl (fun _ => 0)))] := hD
  refine va_putF (D := z.1) (tys := ct_ty z) (ci := 5) (v := .ref q4) (ty := tyX5 3) (C := RX5) (T := TX5) (N := 7) hx hb hts inlX5 tyX5 tyX5_ok nmX5 hown hK hP hD hS 0 rfl rfl 3 (by decide) (hts _ wm_5_8) (fun _ h9 => h9) rfl hin rfl (tyX5_ok 3 (by decide)) rfl rfl (Nat.le_of_ble_eq_true rfl) dX5_init_35 (fun H locs hP hD hS => ?_)
  have hP : va_P z.1 vwCl [(h0, .inr (5, [.ref q1, .ref q2, .ref q3, .ref q4, .null, .int 0, .int 0])), (q1, .inl (z.2.1.1, 8, .inl (fun _ => 0))), (q2, .inl (z.2.1.1, 6, .inl (fun _ => 0))), (q3, .inl (z.2.1.1, 256, .inl (fun _ => 0))), (q4, .inl (z.2.1.1, 256, .inl (fun _ => 0)))] H := hP
  have hD : va_D (ct_A h0 s.heap.size) [(h0, .inr (5, [.ref q1, .ref q2, .ref q3, .ref q4, .null, .int 0, .int 0])), (q1, .inl (z.2.1.1, 8, .inl (fun _ => 0))), (q2, .inl (z.2.1.1, 6, .inl (fun _ => 0))), (q3, .inl (z.2.1.1, 256, .inl (fun _ => 0))), (q4, .inl (z.2.1.1, 256, .inl (fun _ => 0)))] := hD
  refine lv_aload_n hx hb dX5_init_38 rfl (lv_at hl 0 rfl) ?_
  refine lv_sipush (v := nI 256) hx hb dX5_init_39 (by decide) ?_
  refine ct_newa (a0 := (256, .inl (fun _ => 0))) (ty := .int) (atype := .int) (t0 := 0) (N' := 256) hx hb (hts _ wm_2_21) rfl (Or.inl rfl) hK hP hD hS hA rfl (fun _ => rfl) (by decide) (by decide) (Nat.le_of_ble_eq_true rfl) (Nat.le_of_ble_eq_true rfl) (Nat.le_of_ble_eq_true rfl) dX5_init_42 (fun q5 H hP hD hS => ?_)
  have hP : va_P z.1 vwCl [(h0, .inr (5, [.ref q1, .ref q2, .ref q3, .ref q4, .null, .int 0, .int 0])), (q1, .inl (z.2.1.1, 8, .inl (fun _ => 0))), (q2, .inl (z.2.1.1, 6, .inl (fun _ => 0))), (q3, .inl (z.2.1.1, 256, .inl (fun _ => 0))), (q4, .inl (z.2.1.1, 256, .inl (fun _ => 0))), (q5, .inl (z.2.1.1, 256, .inl (fun _ => 0)))] H := hP
  have hD : va_D (ct_A h0 s.heap.size) [(h0, .inr (5, [.ref q1, .ref q2, .ref q3, .ref q4, .null, .int 0, .int 0])), (q1, .inl (z.2.1.1, 8, .inl (fun _ => 0))), (q2, .inl (z.2.1.1, 6, .inl (fun _ => 0))), (q3, .inl (z.2.1.1, 256, .inl (fun _ => 0))), (q4, .inl (z.2.1.1, 256, .inl (fun _ => 0))), (q5, .inl (z.2.1.1, 256, .inl (fun _ => 0)))] := hD
  refine va_putF (D := z.1) (tys := ct_ty z) (ci := 5) (v := .ref q5) (ty := tyX5 4) (C := RX5) (T := TX5) (N := 7) hx hb hts inlX5 tyX5 tyX5_ok nmX5 hown hK hP hD hS 0 rfl rfl 4 (by decide) (hts _ wm_5_9) (fun _ h9 => h9) rfl hin rfl (tyX5_ok 4 (by decide)) rfl rfl (Nat.le_of_ble_eq_true rfl) dX5_init_44 (fun H locs hP hD hS => ?_)
  have hP : va_P z.1 vwCl [(h0, .inr (5, [.ref q1, .ref q2, .ref q3, .ref q4, .ref q5, .int 0, .int 0])), (q1, .inl (z.2.1.1, 8, .inl (fun _ => 0))), (q2, .inl (z.2.1.1, 6, .inl (fun _ => 0))), (q3, .inl (z.2.1.1, 256, .inl (fun _ => 0))), (q4, .inl (z.2.1.1, 256, .inl (fun _ => 0))), (q5, .inl (z.2.1.1, 256, .inl (fun _ => 0)))] H := hP
  have hD : va_D (ct_A h0 s.heap.size) [(h0, .inr (5, [.ref q1, .ref q2, .ref q3, .ref q4, .ref q5, .int 0, .int 0])), (q1, .inl (z.2.1.1, 8, .inl (fun _ => 0))), (q2, .inl (z.2.1.1, 6, .inl (fun _ => 0))), (q3, .inl (z.2.1.1, 256, .inl (fun _ => 0))), (q4, .inl (z.2.1.1, 256, .inl (fun _ => 0))), (q5, .inl (z.2.1.1, 256, .inl (fun _ => 0)))] := hD
  have hhi : ∀ c, 100 ≤ c → (ct_ad [(5, h0), (25, q1), (26, q2), (27, q3), (28, q4), (29, q5)] sa) c = sa c := ct_ad_hi _ (by intro x hx1; simp only [List.mem_cons, List.not_mem_nil, or_false] at hx1; rcases hx1 with rfl | rfl | rfl | rfl | rfl | rfl <;> exact Nat.le_of_ble_eq_true rfl)
  skip
  have hPw : va_P z.1 vwCl (mm_wd (ct_E z (ct_ad [(5, h0), (25, q1), (26, q2), (27, q3), (28, q4), (29, q5)] sa) [5, 25, 26, 27, 28, 29]) ct_M0) H := hP
  have hD : va_D (ct_A h0 s.heap.size) (mm_wd (ct_E z (ct_ad [(5, h0), (25, q1), (26, q2), (27, q3), (28, q4), (29, q5)] sa) [5, 25, 26, 27, 28, 29]) ct_M0) := hD
  have hap := ct_ap (z := z) (ad := (ct_ad [(5, h0), (25, q1), (26, q2), (27, q3), (28, q4), (29, q5)] sa)) (by decide) hD
  have hfr := ct_fresh (z := z) (ad := (ct_ad [(5, h0), (25, q1), (26, q2), (27, q3), (28, q4), (29, q5)] sa)) (c0 := 5) (h0 := h0) rfl (by decide) hap hD
  have hAE := ct_AE hD
  have hN := mm_N.ad (E := ct_E z sa []) (F := (ct_E z (ct_ad [(5, h0), (25, q1), (26, q2), (27, q3), (28, q4), (29, q5)] sa) [5, 25, 26, 27, 28, 29])) hhi hN
  have hadr : (ct_ad [(5, h0), (25, q1), (26, q2), (27, q3), (28, q4), (29, q5)] sa) 5 = h0 := rfl
  generalize (ct_ad [(5, h0), (25, q1), (26, q2), (27, q3), (28, q4), (29, q5)] sa) = ad at hhi hPw hD hap hfr hAE hN hadr
  subst hadr
  have hP := hPw
  refine lv_aload_n hx hb dX5_init_47 rfl (lv_at hl 0 rfl) ?_
  refine lv_iconst (v := nI 2) hx hb dX5_init_48 (by decide) ?_
  refine ct_callV (E := (ct_E z ad [5, 25, 26, 27, 28, 29])) (M := ct_M0) (c0 := 5) (As := [.int (nI 2)]) (rest := []) F hK hap hN hAE hA rfl hP hS hl.1 lk_X5_27 (by show 5 ∈ [5, 25, 26, 27, 28, 29]; decide) rfl rfl rfl ⟨(Nat.le_of_ble_eq_true rfl), (Nat.le_of_ble_eq_true rfl)⟩ ⟨(Nat.le_of_ble_eq_true rfl), (Nat.le_of_ble_eq_true rfl)⟩ (Nat.le_of_ble_eq_true rfl) dX5_init_49 (c_X5_restart (n := 2) (fun c hc => by revert hc; revert c; show ∀ c, c ∈ [5, 25, 26, 27, 28, 29] → c ∈ [5, 25, 26, 27, 28, 29]; decide)) (fun r M1 H locs hp hP hS => ?_)
  obtain ⟨rfl, y1, y2, y3, y4, -⟩ := hp
  refine W.eq (g2 := F0 m 52 ls [.int (nI 2)]) rfl ?_
  refine lv_pop hx hb dX5_init_52 rfl ?_
  exact W.vret hx hb hr (fun t ht hW => ⟨⟨ad, M1, rfl, rfl, hhi, ⟨y1, y3, y4, Or.inl y2⟩, by rw [ht]; exact hP, hap, hfr⟩, hS.F ht⟩) hS.2.2 dX5_init_53

set_option maxHeartbeats 4000000 in
set_option maxRecDepth 100000 in
theorem c_X6_init (z : ct_T) (sa : Nat → Nat) : ct_Con z sa mX6_init 6 [.null, .null, .null, .null, .null, .int 0, .int 0] [6, 30, 31, 32, 33, 34] 6 5 339 (fun M => zX_o zs0 M) := by
  intro h0 sz
  refine Met.ofW (cc := cX6_init) (maxL := 1) (ret := none) (by decide +kernel) rfl ?_
  intro p e s m args below meth c s₁ B hml hv
  obtain ⟨rfl, hsz, hP, hK, hN, hNn⟩ := hv
  have hx := B.exec
  have hb := B.bytes
  have hr := B.returns
  have hts : ∀ w ∈ GW, w.before [Value.ref h0].toArray s = true := fun w hw => atoms_spec (ws := mm_ws mX6_init) B.pre w (List.mem_cons_of_mem _ hw)
  have hown : s.vm.findClass RX6 = some m.cls := findClass_of_methodNamed B.named
  have hlocks := B.notSynchronized
  have hin : meth.name = "<init>" := (name_of_methodNamed B.named B.method).1
  subst hsz
  have hA : ∀ q : Nat, s.heap.size ≤ q → ct_A h0 s.heap.size q := fun q h => Or.inr h
  have hD : va_D (ct_A h0 s.heap.size) [(h0, .inr (6, [.null, .null, .null, .null, .null, .int 0, .int 0]))] := ct_one
  have hS : va_S (ct_A h0 s.heap.size) s.heap s.heap [] := va_S.rf
  have F : CallFix p m c cX6_init 1 s [Value.ref h0].toArray GW RX6 := ⟨hx, hb, hml, hown, hts⟩
  have hl := lv_entry ([.ref h0]) (n := 1) (Nat.le_of_ble_eq_true rfl)
  rw [lg_entry_eq]
  generalize (lg_sl ([.ref h0]) ++ List.replicate (1 - (lg_sl ([.ref h0])).length) Slot.unset).toArray = ls at hl ⊢
  have hl : lv_has ls 1 [(0, .ref h0)] := hl
  skip
  have hP : va_P z.1 vwCl [(h0, .inr (6, [.null, .null, .null, .null, .null, .int 0, .int 0]))] s.heap := hP
  refine lv_aload_n hx hb dX6_init_0 rfl (lv_at hl 0 rfl) ?_
  refine W.objInit hx hb hown (hts _ wm_4_14) (hts _ wm_1_11) (hts _ wm_1_12) rfl (by rw [hml]; exact hl.1) rfl dX6_init_1 (Nat.le_of_ble_eq_true rfl) (Nat.le_of_ble_eq_true rfl) ?_
  refine W.eq (g2 := F0 m 4 ls []) rfl ?_
  refine lv_aload_n hx hb dX6_init_4 rfl (lv_at hl 0 rfl) ?_
  refine lv_bipush (v := nI 72) hx hb dX6_init_5 (by decide) ?_
  refine ct_newa (a0 := (72, .inl (fun _ => 0))) (ty := .int) (atype := .int) (t0 := 0) (N' := 72) hx hb (hts _ wm_2_21) rfl (Or.inl rfl) hK hP hD hS hA rfl (fun _ => rfl) (by decide) (by decide) (Nat.le_of_ble_eq_true rfl) (Nat.le_of_ble_eq_true rfl) (Nat.le_of_ble_eq_true rfl) dX6_init_7 (fun q1 H hP hD hS => ?_)
  have hP : va_P z.1 vwCl [(h0, .inr (6, [.null, .null, .null, .null, .null, .int 0, .int 0])), (q1, .inl (z.2.1.1, 72, .inl (fun _ => 0)))] H := hP
  have hD : va_D (ct_A h0 s.heap.size) [(h0, .inr (6, [.null, .null, .null, .null, .null, .int 0, .int 0])), (q1, .inl (z.2.1.1, 72, .inl (fun _ => 0)))] := hD
  refine va_putF (D := z.1) (tys := ct_ty z) (ci := 6) (v := .ref q1) (ty := tyX6 0) (C := RX6) (T := TX6) (N := 7) hx hb hts inlX6 tyX6 tyX6_ok nmX6 hown hK hP hD hS 0 rfl rfl 0 (by decide) (hts _ wm_4_15) (fun _ h9 => h9) rfl hin rfl (tyX6_ok 0 (by decide)) rfl rfl (Nat.le_of_ble_eq_true rfl) dX6_init_9 (fun H locs hP hD hS => ?_)
  have hP : va_P z.1 vwCl [(h0, .inr (6, [.ref q1, .null, .null, .null, .null, .int 0, .int 0])), (q1, .inl (z.2.1.1, 72, .inl (fun _ => 0)))] H := hP
  have hD : va_D (ct_A h0 s.heap.size) [(h0, .inr (6, [.ref q1, .null, .null, .null, .null, .int 0, .int 0])), (q1, .inl (z.2.1.1, 72, .inl (fun _ => 0)))] := hD
  refine lv_aload_n hx hb dX6_init_12 rfl (lv_at hl 0 rfl) ?_
  refine lv_bipush (v := nI 96) hx hb dX6_init_13 (by decide) ?_
  refine ct_newa (a0 := (96, .inl (fun _ => 0))) (ty := .int) (atype := .int) (t0 := 0) (N' := 96) hx hb (hts _ wm_2_21) rfl (Or.inl rfl) hK hP hD hS hA rfl (fun _ => rfl) (by decide) (by decide) (Nat.le_of_ble_eq_true rfl) (Nat.le_of_ble_eq_true rfl) (Nat.le_of_ble_eq_true rfl) dX6_init_15 (fun q2 H hP hD hS => ?_)
  have hP : va_P z.1 vwCl [(h0, .inr (6, [.ref q1, .null, .null, .null, .null, .int 0, .int 0])), (q1, .inl (z.2.1.1, 72, .inl (fun _ => 0))), (q2, .inl (z.2.1.1, 96, .inl (fun _ => 0)))] H := hP
  have hD : va_D (ct_A h0 s.heap.size) [(h0, .inr (6, [.ref q1, .null, .null, .null, .null, .int 0, .int 0])), (q1, .inl (z.2.1.1, 72, .inl (fun _ => 0))), (q2, .inl (z.2.1.1, 96, .inl (fun _ => 0)))] := hD
  refine va_putF (D := z.1) (tys := ct_ty z) (ci := 6) (v := .ref q2) (ty := tyX6 1) (C := RX6) (T := TX6) (N := 7) hx hb hts inlX6 tyX6 tyX6_ok nmX6 hown hK hP hD hS 0 rfl rfl 1 (by decide) (hts _ wm_4_16) (fun _ h9 => h9) rfl hin rfl (tyX6_ok 1 (by decide)) rfl rfl (Nat.le_of_ble_eq_true rfl) dX6_init_17 (fun H locs hP hD hS => ?_)
  have hP : va_P z.1 vwCl [(h0, .inr (6, [.ref q1, .ref q2, .null, .null, .null, .int 0, .int 0])), (q1, .inl (z.2.1.1, 72, .inl (fun _ => 0))), (q2, .inl (z.2.1.1, 96, .inl (fun _ => 0)))] H := hP
  have hD : va_D (ct_A h0 s.heap.size) [(h0, .inr (6, [.ref q1, .ref q2, .null, .null, .null, .int 0, .int 0])), (q1, .inl (z.2.1.1, 72, .inl (fun _ => 0))), (q2, .inl (z.2.1.1, 96, .inl (fun _ => 0)))] := hD
  refine lv_aload_n hx hb dX6_init_20 rfl (lv_at hl 0 rfl) ?_
  refine lv_iconst (v := nI 3) hx hb dX6_init_21 (by decide) ?_
  refine ct_newa (a0 := (3, .inl (fun _ => 0))) (ty := .int) (atype := .int) (t0 := 0) (N' := 3) hx hb (hts _ wm_2_21) rfl (Or.inl rfl) hK hP hD hS hA rfl (fun _ => rfl) (by decide) (by decide) (Nat.le_of_ble_eq_true rfl) (Nat.le_of_ble_eq_true rfl) (Nat.le_of_ble_eq_true rfl) dX6_init_22 (fun q3 H hP hD hS => ?_)
  have hP : va_P z.1 vwCl [(h0, .inr (6, [.ref q1, .ref q2, .null, .null, .null, .int 0, .int 0])), (q1, .inl (z.2.1.1, 72, .inl (fun _ => 0))), (q2, .inl (z.2.1.1, 96, .inl (fun _ => 0))), (q3, .inl (z.2.1.1, 3, .inl (fun _ => 0)))] H := hP
  have hD : va_D (ct_A h0 s.heap.size) [(h0, .inr (6, [.ref q1, .ref q2, .null, .null, .null, .int 0, .int 0])), (q1, .inl (z.2.1.1, 72, .inl (fun _ => 0))), (q2, .inl (z.2.1.1, 96, .inl (fun _ => 0))), (q3, .inl (z.2.1.1, 3, .inl (fun _ => 0)))] := hD
  refine va_putF (D := z.1) (tys := ct_ty z) (ci := 6) (v := .ref q3) (ty := tyX6 2) (C := RX6) (T := TX6) (N := 7) hx hb hts inlX6 tyX6 tyX6_ok nmX6 hown hK hP hD hS 0 rfl rfl 2 (by decide) (hts _ wm_4_17) (fun _ h9 => h9) rfl hin rfl (tyX6_ok 2 (by decide)) rfl rfl (Nat.le_of_ble_eq_true rfl) dX6_init_24 (fun H locs hP hD hS => ?_)
  have hP : va_P z.1 vwCl [(h0, .inr (6, [.ref q1, .ref q2, .ref q3, .null, .null, .int 0, .int 0])), (q1, .inl (z.2.1.1, 72, .inl (fun _ => 0))), (q2, .inl (z.2.1.1, 96, .inl (fun _ => 0))), (q3, .inl (z.2.1.1, 3, .inl (fun _ => 0)))] H := hP
  have hD : va_D (ct_A h0 s.heap.size) [(h0, .inr (6, [.ref q1, .ref q2, .ref q3, .null, .null, .int 0, .int 0])), (q1, .inl (z.2.1.1, 72, .inl (fun _ => 0))), (q2, .inl (z.2.1.1, 96, .inl (fun _ => 0))), (q3, .inl (z.2.1.1, 3, .inl (fun _ => 0)))] := hD
  refine lv_aload_n hx hb dX6_init_27 rfl (lv_at hl 0 rfl) ?_
  refine lv_bipush (v := nI 72) hx hb dX6_init_28 (by decide) ?_
  refine ct_newa (a0 := (72, .inr (.inl (fun _ => 0)))) (ty := .long) (atype := .long) (t0 := 1) (N' := 72) hx hb (hts _ wm_4_18) rfl (Or.inr (Or.inl rfl)) hK hP hD hS hA rfl (fun _ => rfl) (by decide) (by decide) (Nat.le_of_ble_eq_true rfl) (Nat.le_of_ble_eq_true rfl) (Nat.le_of_ble_eq_true rfl) dX6_init_30 (fun q4 H hP hD hS => ?_)
  have hP : va_P z.1 vwCl [(h0, .inr (6, [.ref q1, .ref q2, .ref q3, .null, .null, .int 0, .int 0])), (q1, .inl (z.2.1.1, 72, .inl (fun _ => 0))), (q2, .inl (z.2.1.1, 96, .inl (fun _ => 0))), (q3, .inl (z.2.1.1, 3, .inl (fun _ => 0))), (q4, .inl (z.2.1.2.1, 72, .inr (.inl (fun _ => 0))))] H := hP
  have hD : va_D (ct_A h0 s.heap.size) [(h0, .inr (6, [.ref q1, .ref q2, .ref q3, .null, .null, .int 0, .int 0])), (q1, .inl (z.2.1.1, 72, .inl (fun _ => 0))), (q2, .inl (z.2.1.1, 96, .inl (fun _ => 0))), (q3, .inl (z.2.1.1, 3, .inl (fun _ => 0))), (q4, .inl (z.2.1.2.1, 72, .inr (.inl (fun _ => 0))))] := hD
  refine va_putF (D := z.1) (tys := ct_ty z) (ci := 6) (v := .ref q4) (ty := tyX6 3) (C := RX6) (T := TX6) (N := 7) hx hb hts inlX6 tyX6 tyX6_ok nmX6 hown hK hP hD hS 0 rfl rfl 3 (by decide) (hts _ wm_4_19) (fun _ h9 => h9) rfl hin rfl (tyX6_ok 3 (by decide)) rfl rfl (Nat.le_of_ble_eq_true rfl) dX6_init_32 (fun H locs hP hD hS => ?_)
  have hP : va_P z.1 vwCl [(h0, .inr (6, [.ref q1, .ref q2, .ref q3, .ref q4, .null, .int 0, .int 0])), (q1, .inl (z.2.1.1, 72, .inl (fun _ => 0))), (q2, .inl (z.2.1.1, 96, .inl (fun _ => 0))), (q3, .inl (z.2.1.1, 3, .inl (fun _ => 0))), (q4, .inl (z.2.1.2.1, 72, .inr (.inl (fun _ => 0))))] H := hP
  have hD : va_D (ct_A h0 s.heap.size) [(h0, .inr (6, [.ref q1, .ref q2, .ref q3, .ref q4, .null, .int 0, .int 0])), (q1, .inl (z.2.1.1, 72, .inl (fun _ => 0))), (q2, .inl (z.2.1.1, 96, .inl (fun _ => 0))), (q3, .inl (z.2.1.1, 3, .inl (fun _ => 0))), (q4, .inl (z.2.1.2.1, 72, .inr (.inl (fun _ => 0))))] := hD
  refine lv_aload_n hx hb dX6_init_35 rfl (lv_at hl 0 rfl) ?_
  refine lv_bipush (v := nI 96) hx hb dX6_init_36 (by decide) ?_
  refine ct_newa (a0 := (96, .inl (fun _ => 0))) (ty := .int) (atype := .int) (t0 := 0) (N' := 96) hx hb (hts _ wm_2_21) rfl (Or.inl rfl) hK hP hD hS hA rfl (fun _ => rfl) (by decide) (by decide) (Nat.le_of_ble_eq_true rfl) (Nat.le_of_ble_eq_true rfl) (Nat.le_of_ble_eq_true rfl) dX6_init_38 (fun q5 H hP hD hS => ?_)
  have hP : va_P z.1 vwCl [(h0, .inr (6, [.ref q1, .ref q2, .ref q3, .ref q4, .null, .int 0, .int 0])), (q1, .inl (z.2.1.1, 72, .inl (fun _ => 0))), (q2, .inl (z.2.1.1, 96, .inl (fun _ => 0))), (q3, .inl (z.2.1.1, 3, .inl (fun _ => 0))), (q4, .inl (z.2.1.2.1, 72, .inr (.inl (fun _ => 0)))), (q5, .inl (z.2.1.1, 96, .inl (fun _ => 0)))] H := hP
  have hD : va_D (ct_A h0 s.heap.size) [(h0, .inr (6, [.ref q1, .ref q2, .ref q3, .ref q4, .null, .int 0, .int 0])), (q1, .inl (z.2.1.1, 72, .inl (fun _ => 0))), (q2, .inl (z.2.1.1, 96, .inl (fun _ => 0))), (q3, .inl (z.2.1.1, 3, .inl (fun _ => 0))), (q4, .inl (z.2.1.2.1, 72, .inr (.inl (fun _ => 0)))), (q5, .inl (z.2.1.1, 96, .inl (fun _ => 0)))] := hD
  refine va_putF (D := z.1) (tys := ct_ty z) (ci := 6) (v := .ref q5) (ty := tyX6 4) (C := RX6) (T := TX6) (N := 7) hx hb hts inlX6 tyX6 tyX6_ok nmX6 hown hK hP hD hS 0 rfl rfl 4 (by decide) (hts _ wm_4_20) (fun _ h9 => h9) rfl hin rfl (tyX6_ok 4 (by decide)) rfl rfl (Nat.le_of_ble_eq_true rfl) dX6_init_40 (fun H locs hP hD hS => ?_)
  have hP : va_P z.1 vwCl [(h0, .inr (6, [.ref q1, .ref q2, .ref q3, .ref q4, .ref q5, .int 0, .int 0])), (q1, .inl (z.2.1.1, 72, .inl (fun _ => 0))), (q2, .inl (z.2.1.1, 96, .inl (fun _ => 0))), (q3, .inl (z.2.1.1, 3, .inl (fun _ => 0))), (q4, .inl (z.2.1.2.1, 72, .inr (.inl (fun _ => 0)))), (q5, .inl (z.2.1.1, 96, .inl (fun _ => 0)))] H := hP
  have hD : va_D (ct_A h0 s.heap.size) [(h0, .inr (6, [.ref q1, .ref q2, .ref q3, .ref q4, .ref q5, .int 0, .int 0])), (q1, .inl (z.2.1.1, 72, .inl (fun _ => 0))), (q2, .inl (z.2.1.1, 96, .inl (fun _ => 0))), (q3, .inl (z.2.1.1, 3, .inl (fun _ => 0))), (q4, .inl (z.2.1.2.1, 72, .inr (.inl (fun _ => 0)))), (q5, .inl (z.2.1.1, 96, .inl (fun _ => 0)))] := hD
  have hhi : ∀ c, 100 ≤ c → (ct_ad [(6, h0), (30, q1), (31, q2), (32, q3), (33, q4), (34, q5)] sa) c = sa c := ct_ad_hi _ (by intro x hx1; simp only [List.mem_cons, List.not_mem_nil, or_false] at hx1; rcases hx1 with rfl | rfl | rfl | rfl | rfl | rfl <;> exact Nat.le_of_ble_eq_true rfl)
  skip
  have hPw : va_P z.1 vwCl (mm_wd (ct_E z (ct_ad [(6, h0), (30, q1), (31, q2), (32, q3), (33, q4), (34, q5)] sa) [6, 30, 31, 32, 33, 34]) ct_M0) H := hP
  have hD : va_D (ct_A h0 s.heap.size) (mm_wd (ct_E z (ct_ad [(6, h0), (30, q1), (31, q2), (32, q3), (33, q4), (34, q5)] sa) [6, 30, 31, 32, 33, 34]) ct_M0) := hD
  have hap := ct_ap (z := z) (ad := (ct_ad [(6, h0), (30, q1), (31, q2), (32, q3), (33, q4), (34, q5)] sa)) (by decide) hD
  have hfr := ct_fresh (z := z) (ad := (ct_ad [(6, h0), (30, q1), (31, q2), (32, q3), (33, q4), (34, q5)] sa)) (c0 := 6) (h0 := h0) rfl (by decide) hap hD
  have hAE := ct_AE hD
  have hN := mm_N.ad (E := ct_E z sa []) (F := (ct_E z (ct_ad [(6, h0), (30, q1), (31, q2), (32, q3), (33, q4), (34, q5)] sa) [6, 30, 31, 32, 33, 34])) hhi hN
  have hadr : (ct_ad [(6, h0), (30, q1), (31, q2), (32, q3), (33, q4), (34, q5)] sa) 6 = h0 := rfl
  generalize (ct_ad [(6, h0), (30, q1), (31, q2), (32, q3), (33, q4), (34, q5)] sa) = ad at hhi hPw hD hap hfr hAE hN hadr
  subst hadr
  have hP := hPw
  refine lv_aload_n hx hb dX6_init_43 rfl (lv_at hl 0 rfl) ?_
  refine ct_callV (E := (ct_E z ad [6, 30, 31, 32, 33, 34])) (M := ct_M0) (c0 := 6) (As := []) (rest := []) F hK hap hN hAE hA rfl hP hS hl.1 lk_X6_28 (by show 6 ∈ [6, 30, 31, 32, 33, 34]; decide) rfl rfl rfl ⟨(Nat.le_of_ble_eq_true rfl), (Nat.le_of_ble_eq_true rfl)⟩ ⟨(Nat.le_of_ble_eq_true rfl), (Nat.le_of_ble_eq_true rfl)⟩ (Nat.le_of_ble_eq_true rfl) dX6_init_44 (c_X6_begin (fun c hc => by revert hc; revert c; show ∀ c, c ∈ [6, 30, 31, 32] → c ∈ [6, 30, 31, 32, 33, 34]; decide)) (fun r M1 H locs hp hP hS => ?_)
  obtain ⟨rfl, y1, y2, y3, y4⟩ := hp
  refine W.eq (g2 := F0 m 47 ls []) rfl ?_
  exact W.vret hx hb hr (fun t ht hW => ⟨⟨ad, M1, rfl, rfl, hhi, ⟨y1, y2, y3, congrFun (y4 6 (by decide)).1 6⟩, by rw [ht]; exact hP, hap, hfr⟩, hS.F ht⟩) hS.2.2 dX6_init_47

theorem ct_k0 {M : mm_M} (h : ∀ j, j < 192 → M.1 16 j = -1) (hs : mm_same [16] ct_M0 M) : zX_k zs0 M := by
  refine ⟨congrFun (hs 3 (by decide)).1 8, fun k hk => absurd hk (Nat.not_lt_zero _), fun l p hl hp => ?_, fun p hp => ⟨congrFun (hs 17 (by decide)).1 p, congrFun (hs 18 (by decide)).1 p⟩, fun l hl => congrFun (hs 19 (by decide)).1 l⟩
  rw [h (l * 24 + p) (by omega)]
  rfl

set_option maxHeartbeats 4000000 in
set_option maxRecDepth 100000 in
theorem c_X3_init (z : ct_T) (sa : Nat → Nat) : ct_Con z sa mX3_init 3 [.null, .null, .null, .null, .null, .null, .null, .null, .int 0] [3, 12, 13, 14, 15, 16, 17, 18, 19] 3 8 1048 (fun M => zX_k zs0 M) := by
  intro h0 sz
  refine Met.ofW (cc := cX3_init) (maxL := 2) (ret := none) (by decide +kernel) rfl ?_
  intro p e s m args below meth c s₁ B hml hv
  obtain ⟨rfl, hsz, hP, hK, hN, hNn⟩ := hv
  have hx := B.exec
  have hb := B.bytes
  have hr := B.returns
  have hts : ∀ w ∈ GW, w.before [Value.ref h0].toArray s = true := fun w hw => atoms_spec (ws := mm_ws mX3_init) B.pre w (List.mem_cons_of_mem _ hw)
  have hown : s.vm.findClass RX3 = some m.cls := findClass_of_methodNamed B.named
  have hlocks := B.notSynchronized
  have hin : meth.name = "<init>" := (name_of_methodNamed B.named B.method).1
  subst hsz
  have hA : ∀ q : Nat, s.heap.size ≤ q → ct_A h0 s.heap.size q := fun q h => Or.inr h
  have hD : va_D (ct_A h0 s.heap.size) [(h0, .inr (3, [.null, .null, .null, .null, .null, .null, .null, .null, .int 0]))] := ct_one
  have hS : va_S (ct_A h0 s.heap.size) s.heap s.heap [] := va_S.rf
  have F : CallFix p m c cX3_init 2 s [Value.ref h0].toArray GW RX3 := ⟨hx, hb, hml, hown, hts⟩
  have hl := lv_entry ([.ref h0]) (n := 2) (Nat.le_of_ble_eq_true rfl)
  rw [lg_entry_eq]
  generalize (lg_sl ([.ref h0]) ++ List.replicate (2 - (lg_sl ([.ref h0])).length) Slot.unset).toArray = ls at hl ⊢
  have hl : lv_has ls 2 [(0, .ref h0)] := hl
  skip
  have hP : va_P z.1 vwCl [(h0, .inr (3, [.null, .null, .null, .null, .null, .null, .null, .null, .int 0]))] s.heap := hP
  refine lv_aload_n hx hb dX3_init_0 rfl (lv_at hl 0 rfl) ?_
  refine W.objInit hx hb hown (hts _ wm_4_2) (hts _ wm_1_11) (hts _ wm_1_12) rfl (by rw [hml]; exact hl.1) rfl dX3_init_1 (Nat.le_of_ble_eq_true rfl) (Nat.le_of_ble_eq_true rfl) ?_
  refine W.eq (g2 := F0 m 4 ls []) rfl ?_
  refine lv_aload_n hx hb dX3_init_4 rfl (lv_at hl 0 rfl) ?_
  refine lv_sipush (v := nI 200) hx hb dX3_init_5 (by decide) ?_
  refine ct_newa (a0 := (200, .inl (fun _ => 0))) (ty := .int) (atype := .int) (t0 := 0) (N' := 200) hx hb (hts _ wm_2_21) rfl (Or.inl rfl) hK hP hD hS hA rfl (fun _ => rfl) (by decide) (by decide) (Nat.le_of_ble_eq_true rfl) (Nat.le_of_ble_eq_true rfl) (Nat.le_of_ble_eq_true rfl) dX3_init_8 (fun q1 H hP hD hS => ?_)
  have hP : va_P z.1 vwCl [(h0, .inr (3, [.null, .null, .null, .null, .null, .null, .null, .null, .int 0])), (q1, .inl (z.2.1.1, 200, .inl (fun _ => 0)))] H := hP
  have hD : va_D (ct_A h0 s.heap.size) [(h0, .inr (3, [.null, .null, .null, .null, .null, .null, .null, .null, .int 0])), (q1, .inl (z.2.1.1, 200, .inl (fun _ => 0)))] := hD
  refine va_putF (D := z.1) (tys := ct_ty z) (ci := 3) (v := .ref q1) (ty := tyX3 0) (C := RX3) (T := TX3) (N := 9) hx hb hts inlX3 tyX3 tyX3_ok nmX3 hown hK hP hD hS 0 rfl rfl 0 (by decide) (hts _ wm_4_3) (fun _ h9 => h9) rfl hin rfl (tyX3_ok 0 (by decide)) rfl rfl (Nat.le_of_ble_eq_true rfl) dX3_init_10 (fun H locs hP hD hS => ?_)
  have hP : va_P z.1 vwCl [(h0, .inr (3, [.ref q1, .null, .null, .null, .null, .null, .null, .null, .int 0])), (q1, .inl (z.2.1.1, 200, .inl (fun _ => 0)))] H := hP
  have hD : va_D (ct_A h0 s.heap.size) [(h0, .inr (3, [.ref q1, .null, .null, .null, .null, .null, .null, .null, .int 0])), (q1, .inl (z.2.1.1, 200, .inl (fun _ => 0)))] := hD
  refine lv_aload_n hx hb dX3_init_13 rfl (lv_at hl 0 rfl) ?_
  refine lv_sipush (v := nI 200) hx hb dX3_init_14 (by decide) ?_
  refine ct_newa (a0 := (200, .inl (fun _ => 0))) (ty := .int) (atype := .int) (t0 := 0) (N' := 200) hx hb (hts _ wm_2_21) rfl (Or.inl rfl) hK hP hD hS hA rfl (fun _ => rfl) (by decide) (by decide) (Nat.le_of_ble_eq_true rfl) (Nat.le_of_ble_eq_true rfl) (Nat.le_of_ble_eq_true rfl) dX3_init_17 (fun q2 H hP hD hS => ?_)
  have hP : va_P z.1 vwCl [(h0, .inr (3, [.ref q1, .null, .null, .null, .null, .null, .null, .null, .int 0])), (q1, .inl (z.2.1.1, 200, .inl (fun _ => 0))), (q2, .inl (z.2.1.1, 200, .inl (fun _ => 0)))] H := hP
  have hD : va_D (ct_A h0 s.heap.size) [(h0, .inr (3, [.ref q1, .null, .null, .null, .null, .null, .null, .null, .int 0])), (q1, .inl (z.2.1.1, 200, .inl (fun _ => 0))), (q2, .inl (z.2.1.1, 200, .inl (fun _ => 0)))] := hD
  refine va_putF (D := z.1) (tys := ct_ty z) (ci := 3) (v := .ref q2) (ty := tyX3 1) (C := RX3) (T := TX3) (N := 9) hx hb hts inlX3 tyX3 tyX3_ok nmX3 hown hK hP hD hS 0 rfl rfl 1 (by decide) (hts _ wm_4_4) (fun _ h9 => h9) rfl hin rfl (tyX3_ok 1 (by decide)) rfl rfl (Nat.le_of_ble_eq_true rfl) dX3_init_19 (fun H locs hP hD hS => ?_)
  have hP : va_P z.1 vwCl [(h0, .inr (3, [.ref q1, .ref q2, .null, .null, .null, .null, .null, .null, .int 0])), (q1, .inl (z.2.1.1, 200, .inl (fun _ => 0))), (q2, .inl (z.2.1.1, 200, .inl (fun _ => 0)))] H := hP
  have hD : va_D (ct_A h0 s.heap.size) [(h0, .inr (3, [.ref q1, .ref q2, .null, .null, .null, .null, .null, .null, .int 0])), (q1, .inl (z.2.1.1, 200, .inl (fun _ => 0))), (q2, .inl (z.2.1.1, 200, .inl (fun _ => 0)))] := hD
  refine lv_aload_n hx hb dX3_init_22 rfl (lv_at hl 0 rfl) ?_
  refine lv_sipush (v := nI 200) hx hb dX3_init_23 (by decide) ?_
  refine ct_newa (a0 := (200, .inl (fun _ => 0))) (ty := .int) (atype := .int) (t0 := 0) (N' := 200) hx hb (hts _ wm_2_21) rfl (Or.inl rfl) hK hP hD hS hA rfl (fun _ => rfl) (by decide) (by decide) (Nat.le_of_ble_eq_true rfl) (Nat.le_of_ble_eq_true rfl) (Nat.le_of_ble_eq_true rfl) dX3_init_26 (fun q3 H hP hD hS => ?_)
  have hP : va_P z.1 vwCl [(h0, .inr (3, [.ref q1, .ref q2, .null, .null, .null, .null, .null, .null, .int 0])), (q1, .inl (z.2.1.1, 200, .inl (fun _ => 0))), (q2, .inl (z.2.1.1, 200, .inl (fun _ => 0))), (q3, .inl (z.2.1.1, 200, .inl (fun _ => 0)))] H := hP
  have hD : va_D (ct_A h0 s.heap.size) [(h0, .inr (3, [.ref q1, .ref q2, .null, .null, .null, .null, .null, .null, .int 0])), (q1, .inl (z.2.1.1, 200, .inl (fun _ => 0))), (q2, .inl (z.2.1.1, 200, .inl (fun _ => 0))), (q3, .inl (z.2.1.1, 200, .inl (fun _ => 0)))] := hD
  refine va_putF (D := z.1) (tys := ct_ty z) (ci := 3) (v := .ref q3) (ty := tyX3 2) (C := RX3) (T := TX3) (N := 9) hx hb hts inlX3 tyX3 tyX3_ok nmX3 hown hK hP hD hS 0 rfl rfl 2 (by decide) (hts _ wm_4_5) (fun _ h9 => h9) rfl hin rfl (tyX3_ok 2 (by decide)) rfl rfl (Nat.le_of_ble_eq_true rfl) dX3_init_28 (fun H locs hP hD hS => ?_)
  have hP : va_P z.1 vwCl [(h0, .inr (3, [.ref q1, .ref q2, .ref q3, .null, .null, .null, .null, .null, .int 0])), (q1, .inl (z.2.1.1, 200, .inl (fun _ => 0))), (q2, .inl (z.2.1.1, 200, .inl (fun _ => 0))), (q3, .inl (z.2.1.1, 200, .inl (fun _ => 0)))] H := hP
  have hD : va_D (ct_A h0 s.heap.size) [(h0, .inr (3, [.ref q1, .ref q2, .ref q3, .null, .null, .null, .null, .null, .int 0])), (q1, .inl (z.2.1.1, 200, .inl (fun _ => 0))), (q2, .inl (z.2.1.1, 200, .inl (fun _ => 0))), (q3, .inl (z.2.1.1, 200, .inl (fun _ => 0)))] := hD
  refine lv_aload_n hx hb dX3_init_31 rfl (lv_at hl 0 rfl) ?_
  refine lv_sipush (v := nI 200) hx hb dX3_init_32 (by decide) ?_
  refine ct_newa (a0 := (200, .inl (fun _ => 0))) (ty := .boolean) (atype := .boolean) (t0 := 2) (N' := 200) hx hb (hts _ wm_3_17) rfl (Or.inr (Or.inr rfl)) hK hP hD hS hA rfl (fun _ => rfl) (by decide) (by decide) (Nat.le_of_ble_eq_true rfl) (Nat.le_of_ble_eq_true rfl) (Nat.le_of_ble_eq_true rfl) dX3_init_35 (fun q4 H hP hD hS => ?_)
  have hP : va_P z.1 vwCl [(h0, .inr (3, [.ref q1, .ref q2, .ref q3, .null, .null, .null, .null, .null, .int 0])), (q1, .inl (z.2.1.1, 200, .inl (fun _ => 0))), (q2, .inl (z.2.1.1, 200, .inl (fun _ => 0))), (q3, .inl (z.2.1.1, 200, .inl (fun _ => 0))), (q4, .inl (z.2.1.2.2, 200, .inl (fun _ => 0)))] H := hP
  have hD : va_D (ct_A h0 s.heap.size) [(h0, .inr (3, [.ref q1, .ref q2, .ref q3, .null, .null, .null, .null, .null, .int 0])), (q1, .inl (z.2.1.1, 200, .inl (fun _ => 0))), (q2, .inl (z.2.1.1, 200, .inl (fun _ => 0))), (q3, .inl (z.2.1.1, 200, .inl (fun _ => 0))), (q4, .inl (z.2.1.2.2, 200, .inl (fun _ => 0)))] := hD
  refine va_putF (D := z.1) (tys := ct_ty z) (ci := 3) (v := .ref q4) (ty := tyX3 3) (C := RX3) (T := TX3) (N := 9) hx hb hts inlX3 tyX3 tyX3_ok nmX3 hown hK hP hD hS 0 rfl rfl 3 (by decide) (hts _ wm_4_6) (fun _ h9 => h9) rfl hin rfl (tyX3_ok 3 (by decide)) rfl rfl (Nat.le_of_ble_eq_true rfl) dX3_init_37 (fun H locs hP hD hS => ?_)
  have hP : va_P z.1 vwCl [(h0, .inr (3, [.ref q1, .ref q2, .ref q3, .ref q4, .null, .null, .null, .null, .int 0])), (q1, .inl (z.2.1.1, 200, .inl (fun _ => 0))), (q2, .inl (z.2.1.1, 200, .inl (fun _ => 0))), (q3, .inl (z.2.1.1, 200, .inl (fun _ => 0))), (q4, .inl (z.2.1.2.2, 200, .inl (fun _ => 0)))] H := hP
  have hD : va_D (ct_A h0 s.heap.size) [(h0, .inr (3, [.ref q1, .ref q2, .ref q3, .ref q4, .null, .null, .null, .null, .int 0])), (q1, .inl (z.2.1.1, 200, .inl (fun _ => 0))), (q2, .inl (z.2.1.1, 200, .inl (fun _ => 0))), (q3, .inl (z.2.1.1, 200, .inl (fun _ => 0))), (q4, .inl (z.2.1.2.2, 200, .inl (fun _ => 0)))] := hD
  refine lv_aload_n hx hb dX3_init_40 rfl (lv_at hl 0 rfl) ?_
  refine lv_sipush (v := nI 192) hx hb dX3_init_41 (by decide) ?_
  refine ct_newa (a0 := (192, .inl (fun _ => 0))) (ty := .int) (atype := .int) (t0 := 0) (N' := 192) hx hb (hts _ wm_2_21) rfl (Or.inl rfl) hK hP hD hS hA rfl (fun _ => rfl) (by decide) (by decide) (Nat.le_of_ble_eq_true rfl) (Nat.le_of_ble_eq_true rfl) (Nat.le_of_ble_eq_true rfl) dX3_init_44 (fun q5 H hP hD hS => ?_)
  have hP : va_P z.1 vwCl [(h0, .inr (3, [.ref q1, .ref q2, .ref q3, .ref q4, .null, .null, .null, .null, .int 0])), (q1, .inl (z.2.1.1, 200, .inl (fun _ => 0))), (q2, .inl (z.2.1.1, 200, .inl (fun _ => 0))), (q3, .inl (z.2.1.1, 200, .inl (fun _ => 0))), (q4, .inl (z.2.1.2.2, 200, .inl (fun _ => 0))), (q5, .inl (z.2.1.1, 192, .inl (fun _ => 0)))] H := hP
  have hD : va_D (ct_A h0 s.heap.size) [(h0, .inr (3, [.ref q1, .ref q2, .ref q3, .ref q4, .null, .null, .null, .null, .int 0])), (q1, .inl (z.2.1.1, 200, .inl (fun _ => 0))), (q2, .inl (z.2.1.1, 200, .inl (fun _ => 0))), (q3, .inl (z.2.1.1, 200, .inl (fun _ => 0))), (q4, .inl (z.2.1.2.2, 200, .inl (fun _ => 0))), (q5, .inl (z.2.1.1, 192, .inl (fun _ => 0)))] := hD
  refine va_putF (D := z.1) (tys := ct_ty z) (ci := 3) (v := .ref q5) (ty := tyX3 4) (C := RX3) (T := TX3) (N := 9) hx hb hts inlX3 tyX3 tyX3_ok nmX3 hown hK hP hD hS 0 rfl rfl 4 (by decide) (hts _ wm_4_7) (fun _ h9 => h9) rfl hin rfl (tyX3_ok 4 (by decide)) rfl rfl (Nat.le_of_ble_eq_true rfl) dX3_init_46 (fun H locs hP hD hS => ?_)
  have hP : va_P z.1 vwCl [(h0, .inr (3, [.ref q1, .ref q2, .ref q3, .ref q4, .ref q5, .null, .null, .null, .int 0])), (q1, .inl (z.2.1.1, 200, .inl (fun _ => 0))), (q2, .inl (z.2.1.1, 200, .inl (fun _ => 0))), (q3, .inl (z.2.1.1, 200, .inl (fun _ => 0))), (q4, .inl (z.2.1.2.2, 200, .inl (fun _ => 0))), (q5, .inl (z.2.1.1, 192, .inl (fun _ => 0)))] H := hP
  have hD : va_D (ct_A h0 s.heap.size) [(h0, .inr (3, [.ref q1, .ref q2, .ref q3, .ref q4, .ref q5, .null, .null, .null, .int 0])), (q1, .inl (z.2.1.1, 200, .inl (fun _ => 0))), (q2, .inl (z.2.1.1, 200, .inl (fun _ => 0))), (q3, .inl (z.2.1.1, 200, .inl (fun _ => 0))), (q4, .inl (z.2.1.2.2, 200, .inl (fun _ => 0))), (q5, .inl (z.2.1.1, 192, .inl (fun _ => 0)))] := hD
  refine lv_aload_n hx hb dX3_init_49 rfl (lv_at hl 0 rfl) ?_
  refine lv_bipush (v := nI 24) hx hb dX3_init_50 (by decide) ?_
  refine ct_newa (a0 := (24, .inl (fun _ => 0))) (ty := .int) (atype := .int) (t0 := 0) (N' := 24) hx hb (hts _ wm_2_21) rfl (Or.inl rfl) hK hP hD hS hA rfl (fun _ => rfl) (by decide) (by decide) (Nat.le_of_ble_eq_true rfl) (Nat.le_of_ble_eq_true rfl) (Nat.le_of_ble_eq_true rfl) dX3_init_52 (fun q6 H hP hD hS => ?_)
  have hP : va_P z.1 vwCl [(h0, .inr (3, [.ref q1, .ref q2, .ref q3, .ref q4, .ref q5, .null, .null, .null, .int 0])), (q1, .inl (z.2.1.1, 200, .inl (fun _ => 0))), (q2, .inl (z.2.1.1, 200, .inl (fun _ => 0))), (q3, .inl (z.2.1.1, 200, .inl (fun _ => 0))), (q4, .inl (z.2.1.2.2, 200, .inl (fun _ => 0))), (q5, .inl (z.2.1.1, 192, .inl (fun _ => 0))), (q6, .inl (z.2.1.1, 24, .inl (fun _ => 0)))] H := hP
  have hD : va_D (ct_A h0 s.heap.size) [(h0, .inr (3, [.ref q1, .ref q2, .ref q3, .ref q4, .ref q5, .null, .null, .null, .int 0])), (q1, .inl (z.2.1.1, 200, .inl (fun _ => 0))), (q2, .inl (z.2.1.1, 200, .inl (fun _ => 0))), (q3, .inl (z.2.1.1, 200, .inl (fun _ => 0))), (q4, .inl (z.2.1.2.2, 200, .inl (fun _ => 0))), (q5, .inl (z.2.1.1, 192, .inl (fun _ => 0))), (q6, .inl (z.2.1.1, 24, .inl (fun _ => 0)))] := hD
  refine va_putF (D := z.1) (tys := ct_ty z) (ci := 3) (v := .ref q6) (ty := tyX3 5) (C := RX3) (T := TX3) (N := 9) hx hb hts inlX3 tyX3 tyX3_ok nmX3 hown hK hP hD hS 0 rfl rfl 5 (by decide) (hts _ wm_4_8) (fun _ h9 => h9) rfl hin rfl (tyX3_ok 5 (by decide)) rfl rfl (Nat.le_of_ble_eq_true rfl) dX3_init_54 (fun H locs hP hD hS => ?_)
  have hP : va_P z.1 vwCl [(h0, .inr (3, [.ref q1, .ref q2, .ref q3, .ref q4, .ref q5, .ref q6, .null, .null, .int 0])), (q1, .inl (z.2.1.1, 200, .inl (fun _ => 0))), (q2, .inl (z.2.1.1, 200, .inl (fun _ => 0))), (q3, .inl (z.2.1.1, 200, .inl (fun _ => 0))), (q4, .inl (z.2.1.2.2, 200, .inl (fun _ => 0))), (q5, .inl (z.2.1.1, 192, .inl (fun _ => 0))), (q6, .inl (z.2.1.1, 24, .inl (fun _ => 0)))] H := hP
  have hD : va_D (ct_A h0 s.heap.size) [(h0, .inr (3, [.ref q1, .ref q2, .ref q3, .ref q4, .ref q5, .ref q6, .null, .null, .int 0])), (q1, .inl (z.2.1.1, 200, .inl (fun _ => 0))), (q2, .inl (z.2.1.1, 200, .inl (fun _ => 0))), (q3, .inl (z.2.1.1, 200, .inl (fun _ => 0))), (q4, .inl (z.2.1.2.2, 200, .inl (fun _ => 0))), (q5, .inl (z.2.1.1, 192, .inl (fun _ => 0))), (q6, .inl (z.2.1.1, 24, .inl (fun _ => 0)))] := hD
  refine lv_aload_n hx hb dX3_init_57 rfl (lv_at hl 0 rfl) ?_
  refine lv_bipush (v := nI 24) hx hb dX3_init_58 (by decide) ?_
  refine ct_newa (a0 := (24, .inl (fun _ => 0))) (ty := .int) (atype := .int) (t0 := 0) (N' := 24) hx hb (hts _ wm_2_21) rfl (Or.inl rfl) hK hP hD hS hA rfl (fun _ => rfl) (by decide) (by decide) (Nat.le_of_ble_eq_true rfl) (Nat.le_of_ble_eq_true rfl) (Nat.le_of_ble_eq_true rfl) dX3_init_60 (fun q7 H hP hD hS => ?_)
  have hP : va_P z.1 vwCl [(h0, .inr (3, [.ref q1, .ref q2, .ref q3, .ref q4, .ref q5, .ref q6, .null, .null, .int 0])), (q1, .inl (z.2.1.1, 200, .inl (fun _ => 0))), (q2, .inl (z.2.1.1, 200, .inl (fun _ => 0))), (q3, .inl (z.2.1.1, 200, .inl (fun _ => 0))), (q4, .inl (z.2.1.2.2, 200, .inl (fun _ => 0))), (q5, .inl (z.2.1.1, 192, .inl (fun _ => 0))), (q6, .inl (z.2.1.1, 24, .inl (fun _ => 0))), (q7, .inl (z.2.1.1, 24, .inl (fun _ => 0)))] H := hP
  have hD : va_D (ct_A h0 s.heap.size) [(h0, .inr (3, [.ref q1, .ref q2, .ref q3, .ref q4, .ref q5, .ref q6, .null, .null, .int 0])), (q1, .inl (z.2.1.1, 200, .inl (fun _ => 0))), (q2, .inl (z.2.1.1, 200, .inl (fun _ => 0))), (q3, .inl (z.2.1.1, 200, .inl (fun _ => 0))), (q4, .inl (z.2.1.2.2, 200, .inl (fun _ => 0))), (q5, .inl (z.2.1.1, 192, .inl (fun _ => 0))), (q6, .inl (z.2.1.1, 24, .inl (fun _ => 0))), (q7, .inl (z.2.1.1, 24, .inl (fun _ => 0)))] := hD
  refine va_putF (D := z.1) (tys := ct_ty z) (ci := 3) (v := .ref q7) (ty := tyX3 6) (C := RX3) (T := TX3) (N := 9) hx hb hts inlX3 tyX3 tyX3_ok nmX3 hown hK hP hD hS 0 rfl rfl 6 (by decide) (hts _ wm_4_9) (fun _ h9 => h9) rfl hin rfl (tyX3_ok 6 (by decide)) rfl rfl (Nat.le_of_ble_eq_true rfl) dX3_init_62 (fun H locs hP hD hS => ?_)
  have hP : va_P z.1 vwCl [(h0, .inr (3, [.ref q1, .ref q2, .ref q3, .ref q4, .ref q5, .ref q6, .ref q7, .null, .int 0])), (q1, .inl (z.2.1.1, 200, .inl (fun _ => 0))), (q2, .inl (z.2.1.1, 200, .inl (fun _ => 0))), (q3, .inl (z.2.1.1, 200, .inl (fun _ => 0))), (q4, .inl (z.2.1.2.2, 200, .inl (fun _ => 0))), (q5, .inl (z.2.1.1, 192, .inl (fun _ => 0))), (q6, .inl (z.2.1.1, 24, .inl (fun _ => 0))), (q7, .inl (z.2.1.1, 24, .inl (fun _ => 0)))] H := hP
  have hD : va_D (ct_A h0 s.heap.size) [(h0, .inr (3, [.ref q1, .ref q2, .ref q3, .ref q4, .ref q5, .ref q6, .ref q7, .null, .int 0])), (q1, .inl (z.2.1.1, 200, .inl (fun _ => 0))), (q2, .inl (z.2.1.1, 200, .inl (fun _ => 0))), (q3, .inl (z.2.1.1, 200, .inl (fun _ => 0))), (q4, .inl (z.2.1.2.2, 200, .inl (fun _ => 0))), (q5, .inl (z.2.1.1, 192, .inl (fun _ => 0))), (q6, .inl (z.2.1.1, 24, .inl (fun _ => 0))), (q7, .inl (z.2.1.1, 24, .inl (fun _ => 0)))] := hD
  refine lv_aload_n hx hb dX3_init_65 rfl (lv_at hl 0 rfl) ?_
  refine lv_bipush (v := nI 8) hx hb dX3_init_66 (by decide) ?_
  refine ct_newa (a0 := (8, .inl (fun _ => 0))) (ty := .int) (atype := .int) (t0 := 0) (N' := 8) hx hb (hts _ wm_2_21) rfl (Or.inl rfl) hK hP hD hS hA rfl (fun _ => rfl) (by decide) (by decide) (Nat.le_of_ble_eq_true rfl) (Nat.le_of_ble_eq_true rfl) (Nat.le_of_ble_eq_true rfl) dX3_init_68 (fun q8 H hP hD hS => ?_)
  have hP : va_P z.1 vwCl [(h0, .inr (3, [.ref q1, .ref q2, .ref q3, .ref q4, .ref q5, .ref q6, .ref q7, .null, .int 0])), (q1, .inl (z.2.1.1, 200, .inl (fun _ => 0))), (q2, .inl (z.2.1.1, 200, .inl (fun _ => 0))), (q3, .inl (z.2.1.1, 200, .inl (fun _ => 0))), (q4, .inl (z.2.1.2.2, 200, .inl (fun _ => 0))), (q5, .inl (z.2.1.1, 192, .inl (fun _ => 0))), (q6, .inl (z.2.1.1, 24, .inl (fun _ => 0))), (q7, .inl (z.2.1.1, 24, .inl (fun _ => 0))), (q8, .inl (z.2.1.1, 8, .inl (fun _ => 0)))] H := hP
  have hD : va_D (ct_A h0 s.heap.size) [(h0, .inr (3, [.ref q1, .ref q2, .ref q3, .ref q4, .ref q5, .ref q6, .ref q7, .null, .int 0])), (q1, .inl (z.2.1.1, 200, .inl (fun _ => 0))), (q2, .inl (z.2.1.1, 200, .inl (fun _ => 0))), (q3, .inl (z.2.1.1, 200, .inl (fun _ => 0))), (q4, .inl (z.2.1.2.2, 200, .inl (fun _ => 0))), (q5, .inl (z.2.1.1, 192, .inl (fun _ => 0))), (q6, .inl (z.2.1.1, 24, .inl (fun _ => 0))), (q7, .inl (z.2.1.1, 24, .inl (fun _ => 0))), (q8, .inl (z.2.1.1, 8, .inl (fun _ => 0)))] := hD
  refine va_putF (D := z.1) (tys := ct_ty z) (ci := 3) (v := .ref q8) (ty := tyX3 7) (C := RX3) (T := TX3) (N := 9) hx hb hts inlX3 tyX3 tyX3_ok nmX3 hown hK hP hD hS 0 rfl rfl 7 (by decide) (hts _ wm_4_10) (fun _ h9 => h9) rfl hin rfl (tyX3_ok 7 (by decide)) rfl rfl (Nat.le_of_ble_eq_true rfl) dX3_init_70 (fun H locs hP hD hS => ?_)
  have hP : va_P z.1 vwCl [(h0, .inr (3, [.ref q1, .ref q2, .ref q3, .ref q4, .ref q5, .ref q6, .ref q7, .ref q8, .int 0])), (q1, .inl (z.2.1.1, 200, .inl (fun _ => 0))), (q2, .inl (z.2.1.1, 200, .inl (fun _ => 0))), (q3, .inl (z.2.1.1, 200, .inl (fun _ => 0))), (q4, .inl (z.2.1.2.2, 200, .inl (fun _ => 0))), (q5, .inl (z.2.1.1, 192, .inl (fun _ => 0))), (q6, .inl (z.2.1.1, 24, .inl (fun _ => 0))), (q7, .inl (z.2.1.1, 24, .inl (fun _ => 0))), (q8, .inl (z.2.1.1, 8, .inl (fun _ => 0)))] H := hP
  have hD : va_D (ct_A h0 s.heap.size) [(h0, .inr (3, [.ref q1, .ref q2, .ref q3, .ref q4, .ref q5, .ref q6, .ref q7, .ref q8, .int 0])), (q1, .inl (z.2.1.1, 200, .inl (fun _ => 0))), (q2, .inl (z.2.1.1, 200, .inl (fun _ => 0))), (q3, .inl (z.2.1.1, 200, .inl (fun _ => 0))), (q4, .inl (z.2.1.2.2, 200, .inl (fun _ => 0))), (q5, .inl (z.2.1.1, 192, .inl (fun _ => 0))), (q6, .inl (z.2.1.1, 24, .inl (fun _ => 0))), (q7, .inl (z.2.1.1, 24, .inl (fun _ => 0))), (q8, .inl (z.2.1.1, 8, .inl (fun _ => 0)))] := hD
  have hhi : ∀ c, 100 ≤ c → (ct_ad [(3, h0), (12, q1), (13, q2), (14, q3), (15, q4), (16, q5), (17, q6), (18, q7), (19, q8)] sa) c = sa c := ct_ad_hi _ (by intro x hx1; simp only [List.mem_cons, List.not_mem_nil, or_false] at hx1; rcases hx1 with rfl | rfl | rfl | rfl | rfl | rfl | rfl | rfl | rfl <;> exact Nat.le_of_ble_eq_true rfl)
  skip
  have hPw : va_P z.1 vwCl (mm_wd (ct_E z (ct_ad [(3, h0), (12, q1), (13, q2), (14, q3), (15, q4), (16, q5), (17, q6), (18, q7), (19, q8)] sa) [3, 12, 13, 14, 15, 16, 17, 18, 19]) ct_M0) H := hP
  have hD : va_D (ct_A h0 s.heap.size) (mm_wd (ct_E z (ct_ad [(3, h0), (12, q1), (13, q2), (14, q3), (15, q4), (16, q5), (17, q6), (18, q7), (19, q8)] sa) [3, 12, 13, 14, 15, 16, 17, 18, 19]) ct_M0) := hD
  have hap := ct_ap (z := z) (ad := (ct_ad [(3, h0), (12, q1), (13, q2), (14, q3), (15, q4), (16, q5), (17, q6), (18, q7), (19, q8)] sa)) (by decide) hD
  have hfr := ct_fresh (z := z) (ad := (ct_ad [(3, h0), (12, q1), (13, q2), (14, q3), (15, q4), (16, q5), (17, q6), (18, q7), (19, q8)] sa)) (c0 := 3) (h0 := h0) rfl (by decide) hap hD
  have hAE := ct_AE hD
  have hN := mm_N.ad (E := ct_E z sa []) (F := (ct_E z (ct_ad [(3, h0), (12, q1), (13, q2), (14, q3), (15, q4), (16, q5), (17, q6), (18, q7), (19, q8)] sa) [3, 12, 13, 14, 15, 16, 17, 18, 19])) hhi hN
  have hadr : (ct_ad [(3, h0), (12, q1), (13, q2), (14, q3), (15, q4), (16, q5), (17, q6), (18, q7), (19, q8)] sa) 3 = h0 := rfl
  generalize (ct_ad [(3, h0), (12, q1), (13, q2), (14, q3), (15, q4), (16, q5), (17, q6), (18, q7), (19, q8)] sa) = ad at hhi hPw hD hap hfr hAE hN hadr
  subst hadr
  have hP := hPw
  have lp : ∀ i, i ≤ 192 → ∀ (M1 : mm_M) (H : Heap) (locs : List Loc) (ls : Array Slot), (∀ j, j < i → M1.1 16 j = -1) → mm_same [16] ct_M0 M1 → va_P z.1 vwCl (mm_wd (ct_E z ad [3, 12, 13, 14, 15, 16, 17, 18, 19]) M1) H → va_S (ct_A (ad 3) s.heap.size) s.heap H locs → lv_has ls 2 [(0, .ref (ad 3)), (1, .int (nI i))] → W p z.2.2 e (ct_rm 1 8 1048) s m [Value.ref (ad 3)].toArray below meth c H locs 8 1048 (MQ below (ct_Q z sa [3, 12, 13, 14, 15, 16, 17, 18, 19] 3 (ad 3) s.heap.size (fun M => zX_k zs0 M)) [Value.ref (ad 3)].toArray s 8 1048 (ct_A (ad 3) s.heap.size)) (F0 m 75 ls []) := by
    intro i hi
    obtain ⟨d, hd⟩ : ∃ d, i + d = 192 := ⟨192 - i, by omega⟩
    induction d generalizing i with
    | zero =>
      intro M1 H locs ls hrow hsm hP hS hl
      refine lv_iload_n hx hb dX3_init_75 rfl (lv_at hl 1 rfl) ?_
      refine lv_aload_n hx hb dX3_init_76 rfl (lv_at hl 0 rfl) ?_
      refine kt_get (E := (ct_E z ad [3, 12, 13, 14, 15, 16, 17, 18, 19])) (M := M1) (c0 := 3) (ci := 3) (N := 9) (k := 4) (C := RX3) (T := TX3) F hK hP (by show 3 ∈ [3, 12, 13, 14, 15, 16, 17, 18, 19]; decide) inlX3 rfl rfl (by decide) wm_4_7 rfl dX3_init_77 ?_
      refine va_alen hx hb hK hP 5 0 rfl rfl (v := nI 192) rfl dX3_init_80 ?_
      refine kt_ge (tgt := 97) F (by omega) (by omega) dX3_init_81 (by decide) (fun hge => ?_) (fun hlt => ?_)
      · have hi2 : i = 192 := by omega
        exact W.vret hx hb hr (fun t ht hW => ⟨⟨ad, M1, rfl, rfl, hhi, ct_k0 (by rw [← hi2]; exact hrow) hsm, by rw [ht]; exact hP, hap, hfr⟩, hS.F ht⟩) hS.2.2 dX3_init_97
      · exact absurd hlt (by omega)
    | succ d ih =>
      intro M1 H locs ls hrow hsm hP hS hl
      refine lv_iload_n hx hb dX3_init_75 rfl (lv_at hl 1 rfl) ?_
      refine lv_aload_n hx hb dX3_init_76 rfl (lv_at hl 0 rfl) ?_
      refine kt_get (E := (ct_E z ad [3, 12, 13, 14, 15, 16, 17, 18, 19])) (M := M1) (c0 := 3) (ci := 3) (N := 9) (k := 4) (C := RX3) (T := TX3) F hK hP (by show 3 ∈ [3, 12, 13, 14, 15, 16, 17, 18, 19]; decide) inlX3 rfl rfl (by decide) wm_4_7 rfl dX3_init_77 ?_
      refine va_alen hx hb hK hP 5 0 rfl rfl (v := nI 192) rfl dX3_init_80 ?_
      refine kt_ge (tgt := 97) F (by omega) (by omega) dX3_init_81 (by decide) (fun hge => ?_) (fun hlt => ?_)
      · have hi2 : i = 192 := by omega
        exact W.vret hx hb hr (fun t ht hW => ⟨⟨ad, M1, rfl, rfl, hhi, ct_k0 (by rw [← hi2]; exact hrow) hsm, by rw [ht]; exact hP, hap, hfr⟩, hS.F ht⟩) hS.2.2 dX3_init_97
      · refine lv_aload_n hx hb dX3_init_84 rfl (lv_at hl 0 rfl) ?_
        refine kt_get (E := (ct_E z ad [3, 12, 13, 14, 15, 16, 17, 18, 19])) (M := M1) (c0 := 3) (ci := 3) (N := 9) (k := 4) (C := RX3) (T := TX3) F hK hP (by show 3 ∈ [3, 12, 13, 14, 15, 16, 17, 18, 19]; decide) inlX3 rfl rfl (by decide) wm_4_7 rfl dX3_init_85 ?_
        refine lv_iload_n hx hb dX3_init_88 rfl (lv_at hl 1 rfl) ?_
        refine lv_iconst (v := -1) hx hb dX3_init_89 (by decide) ?_
        refine kt_iast (E := (ct_E z ad [3, 12, 13, 14, 15, 16, 17, 18, 19])) (M := M1) (c0 := 16) (n := 192) F hK hap hAE hP hS hlt (by decide) (by show 16 ∈ [3, 12, 13, 14, 15, 16, 17, 18, 19]; decide) (fun _ _ => rfl) dX3_init_90 (fun H locs hP hS => ?_)
        refine lv_iinc (v := nI (i + 1)) (lv' := [(1, .int (nI (i + 1))), (0, .ref (ad 3))]) hx hb dX3_init_91 hl (k := 1) rfl (nI_1 i) (by decide) rfl (fun ls hl => ?_)
        refine lv_goto (tgt := 75) hx hb dX3_init_94 (by decide) ?_
        exact ih (i + 1) (by omega) (by omega) _ _ _ _ (fun j hj => by show upd (M1.1 16) i (-1) j = _; by_cases e : j = i; rw [e, upd_s]; rw [upd_n e]; exact hrow j (by omega)) (hsm.si (by decide)) hP hS (lv_sub hl [1, 0] rfl)
  refine lv_iconst (v := nI 0) hx hb dX3_init_73 (by decide) ?_
  refine lv_istore_n (lv' := [(1, .int (nI 0)), (0, .ref (ad 3))]) hx hb dX3_init_74 rfl hl (by decide) rfl (fun ls hl => ?_)
  exact lp 0 (by omega) ct_M0 _ _ _ (fun j hj => absurd hj (Nat.not_lt_zero _)) mm_same.rf hP hS (lv_sub hl [1, 0] rfl)
