/-! constructors: a world that grows -/
abbrev ct_T : Type := va_G × (ClassId × ClassId × ClassId) × Launch
def ct_E (z : ct_T) (ad : Nat → Nat) (cs : List Nat) : mm_E := (ad, cs, z.1, z.2.1, z.2.2)
def ct_ty (z : ct_T) : List (ClassId × FieldType) := [(z.2.1.1, .int), (z.2.1.2.1, .long), (z.2.1.2.2, .boolean)]
def ct_rm (n mc ms : Nat) : Room := { frames := n, cells := mc, slots := ms, locals := 29 * n }
def ct_A (h0 sz : Nat) : Nat → Prop := fun q => q = h0 ∨ sz ≤ q
/-- private constructors of nest mates -/
def ct_Nn (U : State) : Prop := va_Nw (.methodLinkNest RX7 18 yX0_init "LooksByMany") U ∧ va_Nw (.methodLinkNest RX7 25 yX4_init "LooksByMany") U ∧ va_Nw (.methodLinkNest RX7 32 yX2_init "LooksByMany") U
theorem ct_Nn.same {u U : State} (h : u.vm = U.vm) (q : ct_Nn u) : ct_Nn U := ⟨va_Nw.same rfl h q.1, va_Nw.same rfl h q.2.1, va_Nw.same rfl h q.2.2⟩
theorem ct_Nn.warm {s U : State} (hW : s.WarmedH U.vm) (q : ct_Nn s) : ct_Nn U := ⟨va_Nw.warmM hW q.1, va_Nw.warmM hW q.2.1, va_Nw.warmM hW q.2.2⟩
def ct_Pr (z : ct_T) (sa : Nat → Nat) (ci : Nat) (fs : List Value) (h0 sz : Nat) (U : State) : Prop := U.heap.size = sz ∧ va_P z.1 vwCl [(h0, .inr (ci, fs))] U.heap ∧ va_K z.1 vwCl (ct_ty z) U ∧ mm_N (ct_E z sa []) (ct_A h0 sz) U U.heap ∧ ct_Nn U
def ct_Q (z : ct_T) (sa : Nat → Nat) (cs : List Nat) (c0 h0 sz : Nat) (φ : mm_M → Prop) : Array Value → State → Outcome → State → Prop := fun _ st oc t => (∃ (ad : Nat → Nat) (M : mm_M), oc = .returned none ∧ ad c0 = h0 ∧ (∀ c, 100 ≤ c → ad c = sa c) ∧ φ M ∧ va_P z.1 vwCl (mm_wd (ct_E z ad cs) M) t.heap ∧ mm_ap (ct_E z ad cs) ∧ ∀ c, c ∈ cs → c ≠ c0 → sz ≤ ad c) ∧ va_F (ct_A h0 sz) st t
def ct_Con (z : ct_T) (sa : Nat → Nat) (i : mm_I) (ci : Nat) (fs : List Value) (cs : List Nat) (c0 mc ms : Nat) (φ : mm_M → Prop) : Prop :=
  ∀ h0 sz : Nat, Met z.2.2 i.1 (mm_ws i) (ct_rm i.2.2.2.2 mc ms) (va_Pc [.ref h0] (ct_Pr z sa ci fs h0 sz)) (ct_Q z sa cs c0 h0 sz φ) mc ms (ct_A h0 sz)
theorem ct_blind {z : ct_T} {sa : Nat → Nat} {ci : Nat} {fs : List Value} {h0 sz : Nat} {av : List Value} : FrameBlind (va_Pc av (ct_Pr z sa ci fs h0 sz)) := by
  intro a U g mk q
  obtain ⟨q0, q1, qP, qK, qN, qn⟩ := q
  exact ⟨q0, q1, qP, va_K.moved (u := U) (U := U.calling g mk a) (Vm.Alike.refl U.vm) qK, mm_N.same (u := U) (U := U.calling g mk a) rfl qN, ct_Nn.same (u := U) (U := U.calling g mk a) rfl qn⟩
theorem mm_N.ad {E F : mm_E} (h : ∀ c, 100 ≤ c → F.1 c = E.1 c) {A : Nat → Prop} {U : State} {H : Heap} (q : mm_N E A U H) : mm_N F A U H := by
  refine ⟨q.1, q.2.1, q.2.2.1, q.2.2.2.1, fun i hi => ?_, ?_, q.2.2.2.2.2.2⟩
  · rw [h _ (by omega)]; exact q.2.2.2.2.1 i hi
  · have e1 : (fun i => F.1 (100 + i)) = fun i => E.1 (100 + i) := by funext i; exact h _ (by omega)
    have e2 : (fun i => F.1 (200 + i)) = fun i => E.1 (200 + i) := by funext i; exact h _ (by omega)
    rw [e1, e2]; exact q.2.2.2.2.2.1
theorem ct_ap {z : ct_T} {ad : Nat → Nat} {cs : List Nat} {M : mm_M} {A : Nat → Prop} (hn : va_nd cs = true) (hD : va_D A (mm_wd (ct_E z ad cs) M)) : mm_ap (ct_E z ad cs) := by
  refine ⟨hn, fun i hi j hj e => ?_⟩
  obtain ⟨a, ha, ha2⟩ := mm_pos (E := ct_E z ad cs) hi
  obtain ⟨b, hb, hb2⟩ := mm_pos (E := ct_E z ad cs) hj
  have q := hD.1 a b _ _ (ha2 M) (hb2 M) e
  rw [q, hb] at ha
  exact (Option.some.inj ha).symm
theorem ct_fresh {z : ct_T} {ad : Nat → Nat} {c0 h0 sz : Nat} {cs : List Nat} {M : mm_M} (h0e : ad c0 = h0) (hc : c0 ∈ cs) (hap : mm_ap (ct_E z ad cs)) (hD : va_D (ct_A h0 sz) (mm_wd (ct_E z ad cs) M)) : ∀ c, c ∈ cs → c ≠ c0 → sz ≤ ad c := by
  intro c hcc hne
  obtain ⟨a, ha, ha2⟩ := mm_pos (E := ct_E z ad cs) hcc
  rcases hD.2 a _ (ha2 M) with q | q
  · have q : ad c = h0 := q
    exact absurd (hap.2 c hcc c0 hc (q.trans h0e.symm)) hne
  · exact q
section CONS
variable {p : Program} {l : Launch} {e : Env} {R : Room} {s : State} {m : MethodId} {args : Array Value} {below : List Frame} {meth : Method} {c : Code} {H : Heap} {locs : List Loc} {cells slots : Nat} {Q : State → Prop}
variable {cc : ByteArray} {pc : Nat} {ls : Array Slot} {rest : List Value} {A : Nat → Prop} {tys : List (ClassId × FieldType)} {ws : va_W} {D : va_G}
/-- a new row of a kind whose class is known -/
theorem ct_newa (hexec : p.tables.exec = Jvm.exec) (hb : c.code = cc) {atype : ArrayType} (harr : (Cond.arrayClass (newarray.typeOf atype)).before args s = true) {ty : FieldType} (hty : newarray.typeOf atype = ty) (hp : ty = .int ∨ ty = .long ∨ ty = .boolean) (hK : va_K D vwCl tys s) (hP : va_P D vwCl ws H) (hD : va_D A ws) (hS : va_S A s.heap H locs) (hA : ∀ q, s.heap.size ≤ q → A q) {t0 : Nat} {cI : ClassId} (ht : tys[t0]? = some (cI, ty))
    {n : Int32} {N' : Nat} {a0 : vp_A} (ha : ∀ cA : ClassId, vp_cell cA a0 = arrV cA N' (fun _ => defaultValue ty)) (hn : ¬ n < 0) (hN : n.toNatClampNeg = N') (hbytes : N' * componentBytes ty ≤ 536870912) (hcells : cells + 1 ≤ R.cells) (hslots : slots + N' ≤ R.slots) (hdg : decode cc pc = .ok (.newarray atype, 2))
    (kk : ∀ (q : Nat) (H1 : Heap), va_P D vwCl (ws ++ [(q, .inl (cI, a0))]) H1 → va_D A (ws ++ [(q, .inl (cI, a0))]) → va_S A s.heap H1 locs → W p l e R s m args below meth c H1 locs (cells + 1) (slots + N') Q (F0 m (pc + 2) ls (.ref q :: rest))) : W p l e R s m args below meth c H locs cells slots Q (F0 m pc ls (.int n :: rest)) := by
  refine va_newa hexec hb harr hty hK hP hD hS hA ha hn hN hbytes hcells hslots hdg (fun q cA H1 hK1 hP1 hD1 hS1 => ?_)
  have e0 : cA = cI := by
    have h1 := (hK1.2 tys.length (cA, ty) (by simp)).2
    have h2 := (hK.2 t0 _ ht).2
    rcases hp with rfl | rfl | rfl <;> exact Option.some.inj (h1.symm.trans h2)
  subst e0
  exact kk q H1 hP1 hD1 hS1
/-- the words of a static table become a row's -/
theorem ct_copy (hexec : p.tables.exec = Jvm.exec) (hb : c.code = cc) (hml : c.maxLocals = ls.size) {own : String} {index : Nat} (hown : s.vm.findClass own = some m.cls) (hlink : (Cond.methodLink own index arraycopyName).before args s = true) (hnat : (Cond.native arraycopyName).before args s = true) (hstat : (Cond.static arraycopyName).before args s = true) (hini : (Cond.initialized "java/lang/System").before args s = true)
    (hK : va_K D vwCl tys s) (hP : va_P D vwCl ws H) (hD : va_D A ws) (hS : va_S A s.heap H locs) {a b0 n0 : Nat} {f : Nat → Int32} (hX : va_T .int b0 n0 (fun j => .int (f j)) A s s.heap) (q1 t1 : Nat) {c1 : ClassId} {n1 : Nat} {g : Nat → Int32} (ha1 : ws[q1]? = some (a, .inl (c1, n1, .inl g))) (ht1 : tys[t1]? = some (c1, .int))
    {sp dp n : Int32} (h1 : ¬ sp < 0) (h2 : ¬ dp < 0) (h3 : ¬ n < 0) (h4 : sp.toNatClampNeg + n.toNatClampNeg ≤ n0) (h5 : dp.toNatClampNeg + n.toNatClampNeg ≤ n1)
    (hframes : 1 ≤ R.frames) (hlocals : (rest.map fun v => v.category).sum + (nativeFrameWords "java/lang/System" "arraycopy" 5 + 11) ≤ R.locals) (hdg : decode cc pc = .ok (.invokestatic index, 3))
    (kk : ∀ (H1 : Heap) (locs1 : List Loc), va_P D vwCl (ws.set q1 (a, .inl (c1, n1, .inl (va_cpy f g sp.toNatClampNeg dp.toNatClampNeg n.toNatClampNeg)))) H1 → va_D A (ws.set q1 (a, .inl (c1, n1, .inl (va_cpy f g sp.toNatClampNeg dp.toNatClampNeg n.toNatClampNeg)))) → va_S A s.heap H1 locs1 → W p l e R s m args below meth c H1 locs1 cells slots Q (F0 m (pc + 3) ls rest)) : W p l e R s m args below meth c H locs cells slots Q (F0 m pc ls (.int n :: .int dp :: .ref a :: .int sp :: .ref b0 :: rest)) := by
  have nn : ∀ w : Int32, ¬ w < 0 → w.toInt = (w.toNatClampNeg : Int) := by
    intro w hw
    have h0 : (0 : Int) ≤ w.toInt := by
      have := Int32.not_lt.mp hw
      simpa using Int32.le_iff_toInt_le.mp this
    show w.toInt = ((w.toInt.toNat : Nat) : Int)
    omega
  intro T hT X
  obtain ⟨scr, y1, y2, y3, y4, -, y5, y6⟩ := hX
  have g0 : H[b0]? = some scr := by rw [hS.2.1 b0 (Array.getElem?_eq_some_iff.mp y1).1 y6]; exact y1
  have g1 : H[a]? = some (vp_cell c1 (n1, .inl g)) := hP q1 _ ha1
  obtain ⟨y7, k0, hk0, cm0, hkk0⟩ := y2
  obtain ⟨-, k1, hk1, cm1, hkk1⟩ := (hK.2 t1 _ ht1).1 n1 (fun j => .int (g j))
  obtain ⟨vm', X', step⟩ := X.arraycopy hexec hown hlink hnat hstat hini (src := b0) (dst := a) (cs := scr) (cd := vp_cell c1 (n1, .inl g)) (srcPos := sp) (destPos := dp) (n := n) (by rw [hT]; exact g0) (by rw [hT]; exact g1)
    y7 (fun _ h => by cases h) y3 (fun h => by cases h) hk0 hk1 hkk0 hkk1 (by simp [refKind]) h1 h2 h3
    (by rw [nn sp h1, nn n h3]; omega)
    (by rw [nn dp h2, nn n h3]; show ¬ _ > ((arrV c1 n1 (fun j => .int (g j))).slots.size : Int); rw [arrV_size]; omega)
    (fun vm₁ _ i hi => by
      have ei : scr.slots.getD (sp.toNatClampNeg + i) .null = .int (f (sp.toNatClampNeg + i)) := by
        rw [Array.getD_eq_getD_getElem?, y5 _ (by omega)]
        rfl
      refine ⟨?_, ?_⟩
      · rw [ei]; rfl
      · rw [ei]; exact trivial)
    (g := F0 m pc ls (.int n :: .int dp :: .ref a :: .int sp :: .ref b0 :: rest)) rfl (by rw [hml]) (rest := rest) rfl (by rw [hb]; exact hdg) hframes (by show 2 * 0 + _ + _ ≤ _; omega)
  have ec : copied scr (vp_cell c1 (n1, .inl g)) sp dp n = vp_cell c1 (n1, .inl (va_cpy f g sp.toNatClampNeg dp.toNatClampNeg n.toNatClampNeg)) := va_copiedX (fun w => .int w) scr c1 f g y5 h4
  rw [ec] at X' step
  have hl : a < H.size := (Array.getElem?_eq_some_iff.mp g1).1
  have hheap : ((T.setVm vm').setCell a (vp_cell c1 (n1, .inl (va_cpy f g sp.toNatClampNeg dp.toNatClampNeg n.toNatClampNeg)))).heap = H.setIfInBounds a (vp_cell c1 (n1, .inl (va_cpy f g sp.toNatClampNeg dp.toNatClampNeg n.toNatClampNeg))) := by rw [← hT]; rfl
  have oq : ∀ q : Nat, q ≠ a → (H.setIfInBounds a (vp_cell c1 (n1, .inl (va_cpy f g sp.toNatClampNeg dp.toNatClampNeg n.toNatClampNeg))))[q]? = H[q]? := fun q hq => by simp [Array.getElem?_setIfInBounds, Ne.symm hq]
  obtain ⟨t, a1, b1⟩ := kk _ _ (hP.set hD ha1 (show (H.setIfInBounds a _)[a]? = some _ by simp [Array.getElem?_setIfInBounds, hl]) oq) (hD.set ha1) ⟨by simp; exact hS.1, fun q d1 d2 => by
      rw [oq q (fun ee => d2 (by rw [ee]; exact hD.2 q1 _ ha1))]
      exact hS.2.1 q d1 d2, fun q hq => by
      rcases List.mem_append.mp hq with h | h
      · exact hS.2.2 q h
      · obtain ⟨w, -, hw⟩ := List.mem_map.mp h
        rw [← hw]
        exact hD.2 q1 _ ha1⟩ _ hheap X'
  exact ⟨t, step t a1, b1⟩
/-- a method over a world of cells, called out of any frame -/
theorem ct_back {E : mm_E} {st0 : List Value} {post' : Option Value → mm_M → Prop} {a : Array Value} (hAE : ∀ c, c ∈ E.2.1 → A (E.1 c)) (hA : ∀ q, s.heap.size ≤ q → A q) (hS : va_S A s.heap H locs)
    (hr : va_Run p l e R s m args below meth c H locs cells slots 0 0 (F0 m pc ls st0) rest (mm_Q E post' (mm_A E H.size) a) (mm_A E H.size))
    (k : ∀ r M' H1 locs1, post' r M' → va_P E.2.2.1 vwCl (mm_wd E M') H1 → va_S A s.heap H1 locs1 → W p l e R s m args below meth c H1 locs1 cells slots Q (F0 m (pc + 3) ls (r.toList ++ rest))) : W p l e R s m args below meth c H locs cells slots Q (F0 m pc ls st0) := by
  have hsub : ∀ q : Nat, mm_A E H.size q → A q := fun q h => h.elim (fun ⟨c, hc, e⟩ => by rw [e]; exact hAE c hc) (fun z => hA q (Nat.le_trans hS.1 z))
  intro T hT X
  obtain ⟨v, st₀, t, T', L, h0, X', hL, e1, e2, ⟨⟨r, M', hv, hp, hb⟩, hz, hk⟩, st⟩ := hr T hT X
  cases hv
  rw [h0] at hz hk
  obtain ⟨t2, a1, b1⟩ := k v M' T'.heap (locs ++ L) hp (by rw [e1]; exact hb) ⟨Nat.le_trans hS.1 (by rw [e1]; exact hz), fun q h1 h2 => by rw [e1, hk q (Nat.lt_of_lt_of_le h1 hS.1) (fun z => h2 (hsub q z))]; exact hS.2.1 q h1 h2, fun q hq => by
      rcases List.mem_append.mp hq with h | h
      · exact hS.2.2 q h
      · exact hsub _ (hL q h)⟩ T' rfl X'
  exact ⟨t2, st t2 a1, b1⟩
theorem ct_pre {E : mm_E} {M : mm_M} (hK : va_K E.2.2.1 vwCl (mm_tys E) s) (hap : mm_ap E) (hN : mm_N E A s s.heap) (hAE : ∀ c, c ∈ E.2.1 → A (E.1 c)) (hA : ∀ q, s.heap.size ≤ q → A q) (hP : va_P E.2.2.1 vwCl (mm_wd E M) H) (hS : va_S A s.heap H locs) (av : List Value) (U : State) (hU : U.heap = H) (hW : s.WarmedH U.vm) : va_Pc av (mm_Pr E M H.size) av.toArray U := by
  refine ⟨rfl, by rw [hU], by rw [hU]; exact hP, va_K.moved hW.alike hK, hap, ?_⟩
  rw [hU]
  exact mm_N.warm hW (fun q h => h.elim (fun ⟨c, hc, e⟩ => by rw [e]; exact hAE c hc) (fun z => hA q (Nat.le_trans hS.1 z))) (fun a h1 h2 => hS.2.1 a h1 h2) hN
theorem ct_callV {E : mm_E} {M : mm_M} {own : String} {nL : Nat} (F : CallFix p m c cc nL s args GW own) (hK : va_K E.2.2.1 vwCl (mm_tys E) s) (hap : mm_ap E) (hN : mm_N E A s s.heap) (hAE : ∀ c, c ∈ E.2.1 → A (E.1 c)) (hA : ∀ q, s.heap.size ≤ q → A q) (hl : E.2.2.2.2 = l) (hP : va_P E.2.2.1 vwCl (mm_wd E M) H) (hS : va_S A s.heap H locs) (hls : ls.size = nL)
    {C : String} {T : u_T} {N c0 ci idx n : Nat} {fs As : List Value} {j : mm_I} {post' : Option Value → mm_M → Prop} (hlk : mm_LV own idx C j n) (hc : c0 ∈ E.2.1) (hcl : vwCl[ci]? = some (C, T, N)) (hcel : mm_cl E (M.1 c0) (M.2 c0) c0 = .inr (ci, fs)) (hn : As.length = n) (hR : (mm_rm j.2.2.2.2).frames + 1 ≤ R.frames ∧ 8 + (j.2.2.1 + 11) + (mm_rm j.2.2.2.2).locals ≤ R.locals) (hf : cells + 0 ≤ R.cells ∧ slots + 0 ≤ R.slots) (hcat : (rest.map fun v => v.category).sum ≤ 8) (hd : decode cc pc = .ok (.invokevirtual idx, 3)) (hcal : mm_Cal E j (.ref (E.1 c0) :: As) M post')
    (k : ∀ r M' H1 locs1, post' r M' → va_P E.2.2.1 vwCl (mm_wd E M') H1 → va_S A s.heap H1 locs1 → W p l e R s m args below meth c H1 locs1 cells slots Q (F0 m (pc + 3) ls (r.toList ++ rest))) : W p l e R s m args below meth c H locs cells slots Q (F0 m pc ls (As.reverse ++ .ref (E.1 c0) :: rest)) := by
  subst hl
  obtain ⟨q0, hq, hw⟩ := mm_pos hc
  have hts := F.2.2.2.2
  obtain ⟨h1, h2, h3, h4, h5, hy⟩ := hlk
  exact ct_back hAE hA hS (va_runV (As := As) (rest := rest) F (hcal H.size) (cwV n hts (mm_good h5 [.methodLink own idx j.1, .instanceMethod j.1, .selects C j.1 j.1, .initialized C] (by simpa using ⟨h1, h2, h3, h4⟩)) rfl rfl rfl hy hR) ⟨mm_blind, va_recv hK hP hcl ((hw M).trans (by rw [hcel])), fun U hU hW => ct_pre hK hap hN hAE hA hP hS _ U hU hW⟩ rfl hn hls rfl (lv_room hcat) hd hf) k
theorem ct_callS {E : mm_E} {M : mm_M} {own : String} {nL : Nat} (F : CallFix p m c cc nL s args GW own) (hK : va_K E.2.2.1 vwCl (mm_tys E) s) (hap : mm_ap E) (hN : mm_N E A s s.heap) (hAE : ∀ c, c ∈ E.2.1 → A (E.1 c)) (hA : ∀ q, s.heap.size ≤ q → A q) (hl : E.2.2.2.2 = l) (hP : va_P E.2.2.1 vwCl (mm_wd E M) H) (hS : va_S A s.heap H locs) (hls : ls.size = nL)
    {idx n : Nat} {As : List Value} {j : mm_I} {post' : Option Value → mm_M → Prop} (hlk : mm_LS own idx j n) (hn : As.length = n) (hR : (mm_rm j.2.2.2.2).frames + 1 ≤ R.frames ∧ 8 + (j.2.2.1 + 11) + (mm_rm j.2.2.2.2).locals ≤ R.locals) (hf : cells + 0 ≤ R.cells ∧ slots + 0 ≤ R.slots) (hcat : (rest.map fun v => v.category).sum ≤ 8) (hd : decode cc pc = .ok (.invokestatic idx, 3)) (hcal : mm_Cal E j As M post')
    (k : ∀ r M' H1 locs1, post' r M' → va_P E.2.2.1 vwCl (mm_wd E M') H1 → va_S A s.heap H1 locs1 → W p l e R s m args below meth c H1 locs1 cells slots Q (F0 m (pc + 3) ls (r.toList ++ rest))) : W p l e R s m args below meth c H locs cells slots Q (F0 m pc ls (As.reverse ++ rest)) := by
  subst hl
  have hts := F.2.2.2.2
  obtain ⟨h1, h2, h3, h5, hy⟩ := hlk
  exact ct_back hAE hA hS (va_runS (As := As) (rest := rest) F (hcal H.size) (va_cwS n hts (mm_good h5 [.methodLink own idx j.1, .static j.1, .initialized j.1.cls] (by simpa using ⟨h1, h2, h3⟩)) rfl rfl rfl hy hR) ⟨mm_blind, fun U hU hW => ct_pre hK hap hN hAE hA hP hS _ U hU hW⟩ rfl hn hls rfl (lv_room hcat) hd hf) k
/-- new C(): an object and what its constructor makes come behind the world -/
theorem ct_make {z : ct_T} {sa : Nat → Nat} {own : String} {nL : Nat} (F : CallFix p m c cc nL s args GW own) (hK : va_K z.1 vwCl (ct_ty z) s) (hN : mm_N (ct_E z sa []) A s s.heap) (hNn : ct_Nn s) (hA : ∀ q, s.heap.size ≤ q → A q) (hl : z.2.2 = l) (hP : va_P z.1 vwCl ws H) (hD : va_D A ws) (hS : va_S A s.heap H locs) (hls : ls.size = nL)
    {C : String} {T : u_T} {N ci i0 i1 : Nat} {fs : List Value} {cs : List Nat} {c0 mc ms : Nat} {j : mm_I} {φ : mm_M → Prop} (hin : ∀ w ∈ u_ws C T N, w ∈ GW) (ty : Nat → FieldType) (hty : ∀ k, k < N → parseFieldDescriptor (T k).2.2.1 = some (ty k)) (w1 : Cond.classLink own i0 C ∈ GW) (w2 : Cond.instantiable C N ∈ GW) (w3 : Cond.initialized C ∈ GW) (hc : vwCl[ci]? = some (C, T, N)) (hfs : ∀ k, k < N → defaultValue (ty k) = vp_V fs k)
    (w4 : Cond.methodLink own i1 j.1 ∈ GW ∨ va_Nw (.methodLinkNest own i1 j.1 "LooksByMany") s) (w5 : Cond.instanceMethod j.1 ∈ GW) (w6 : Cond.code j.1 j.2.1 j.2.2.1 none ∈ GW) (hj : j.2.2.2.1 = none) (hini : j.1.cls = C ∧ j.1.name = "<init>" ∧ (j.1.cls ≠ "java/lang/invoke/MethodHandle" ∧ j.1.cls ≠ "java/lang/invoke/VarHandle" ∧ (parseMethodDescriptor j.1.desc).map (fun d => d.parameters.length) = some 0))
    (hR : (ct_rm j.2.2.2.2 mc ms).frames + 1 ≤ R.frames ∧ 8 + (j.2.2.1 + 11) + (ct_rm j.2.2.2.2 mc ms).locals ≤ R.locals) (hf : cells + 1 + mc ≤ R.cells ∧ slots + N + ms ≤ R.slots) (hcat : (rest.map fun v => v.category).sum ≤ 7) (hd0 : decode cc pc = .ok (.new i0, 3)) (hd1 : decode cc (pc + 3) = .ok (.dup, 1)) (hd2 : decode cc (pc + 4) = .ok (.invokespecial i1, 3)) (hcon : ct_Con z sa j ci fs cs c0 mc ms φ) (hc0 : c0 ∈ cs)
    (k : ∀ (ad : Nat → Nat) (M : mm_M) (H1 : Heap) (locs1 : List Loc), (∀ c, 100 ≤ c → ad c = sa c) → φ M → mm_ap (ct_E z ad cs) → va_P z.1 vwCl (ws ++ mm_wd (ct_E z ad cs) M) H1 → va_D A (ws ++ mm_wd (ct_E z ad cs) M) → va_S A s.heap H1 locs1 → W p l e R s m args below meth c H1 locs1 (cells + 1 + mc) (slots + N + ms) Q (F0 m (pc + 7) ls (.ref (ad c0) :: rest))) : W p l e R s m args below meth c H locs cells slots Q (F0 m pc ls rest) := by
  subst hl
  obtain ⟨hx, hb, hml, hown, hts⟩ := id F
  refine va_new (tys := ct_ty z) hx hb hts hin ty hty hown (hts _ w1) (hts _ w2) (hts _ w3) hK hP hD hS hA hc hfs (by omega) (by omega) hd0 (fun q H1 hP1 hD1 hS1 => ?_)
  refine lv_dup hx hb hd1 rfl ?_
  have hq1 : (ws ++ [((q : Nat), (Sum.inr (ci, fs) : va_E))])[ws.length]? = some (q, .inr (ci, fs)) := by simp
  have hPc : va_P z.1 vwCl [((q : Nat), (Sum.inr (ci, fs) : va_E))] H1 := fun i x hi => by
    have hz : i < 1 := (List.getElem?_eq_some_iff.mp hi).1
    rw [show i = 0 by omega] at hi
    cases hi
    exact hP1 ws.length _ hq1
  have hAq : A q := hD1.2 ws.length _ hq1
  have hsub : ∀ x : Nat, ct_A q H1.size x → A x := fun x h => h.elim (fun e => by rw [e]; exact hAq) (fun w => hA x (Nat.le_trans hS1.1 w))
  have hgd : GoodIn GW (mm_ws j) := mm_good (j := j) (by rw [hj]; exact w6) [] (by simp)
  have hpre : PreS s H1 (va_Pc [.ref q] (ct_Pr z sa ci fs q H1.size)) [.ref q] := ⟨ct_blind, fun U hU hW => ⟨rfl, by rw [hU], by rw [hU]; exact hPc, va_K.moved hW.alike hK, by rw [hU]; exact mm_N.warm hW hsub (fun a h1 h2 => hS1.2.1 a h1 h2) hN, hNn.warm hW⟩⟩
  have hrm : 2 * (F0 m (pc + 4) ls (.ref q :: .ref q :: rest)).monitorRoom + ((Value.ref q :: rest).map fun v => v.category).sum ≤ 8 := by
    have : ((Value.ref q :: rest).map fun v => v.category).sum = 1 + (rest.map fun v => v.category).sum := by simp [Value.category]
    exact lv_room (by omega)
  have hr : va_Run p z.2.2 e R s m args below meth c H1 locs (cells + 1) (slots + N) mc ms (F0 m (pc + 4) ls (.ref q :: .ref q :: rest)) (.ref q :: rest) (ct_Q z sa cs c0 q H1.size φ ([Value.ref q] : List Value).toArray) (ct_A q H1.size) := by
    rcases w4 with w4 | w4
    · exact va_runI (As := []) F (hcon q H1.size) (cwI 0 hts hgd (by rw [mm_ws, hj]) rfl rfl (hts _ (by rw [hini.1]; exact w3)) (hts _ w4) (hts _ w5) hini.2.1 hini.2.2 hR) hpre rfl rfl hls rfl hrm hd2 hf
    · exact va_runIN (As := []) F (hcon q H1.size) ⟨va_cnB 0 hts hgd (by rw [mm_ws, hj]) rfl rfl w4 (hts _ (by rw [hini.1]; exact w3)) hini.2.2 hR, hini.2.1, hts _ w5⟩ hpre rfl rfl hls rfl hrm hd2 hf
  intro T hT X
  obtain ⟨v, st₀, t, T', L, h0, X', hL, e1, e2, ⟨⟨ad, M, hv, had, hhi, hφ, hPn, hapn, hfr⟩, hz, hk⟩, st⟩ := hr T hT X
  cases hv
  rw [h0] at hz hk
  have hP0 : va_P z.1 vwCl ws H1 := fun i x hi => hP1 i x (by rw [List.getElem?_append_left (List.getElem?_eq_some_iff.mp hi).1]; exact hi)
  have hne : ∀ (i : Nat) (x : Nat × va_E), ws[i]? = some x → x.1 ≠ q ∧ x.1 < H1.size := fun i x hi => ⟨fun ee => by
    have hl := (List.getElem?_eq_some_iff.mp hi).1
    have := hD1.1 i ws.length x _ (by rw [List.getElem?_append_left hl]; exact hi) hq1 ee
    omega, (hP0 i x hi).lt⟩
  have hPk : va_P z.1 vwCl ws t.heap := hP0.kept (fun i x hi => hk x.1 (hne i x hi).2 (fun h => h.elim (hne i x hi).1 (fun w => by have := (hne i x hi).2; omega)))
  have hcc : ∀ (i : Nat) (x : Nat × va_E), (mm_wd (ct_E z ad cs) M)[i]? = some x → x.1 = q ∨ H1.size ≤ x.1 := fun i x hi => by
    obtain ⟨c', h1, rfl⟩ := mm_wdk hi
    by_cases ee : c' = c0
    · left; rw [ee]; exact had
    · right; exact hfr c' (List.mem_of_getElem? h1) ee
  have hDn : va_D A (ws ++ mm_wd (ct_E z ad cs) M) := by
    have hDm := mm_vaD (M := M) (sz := 0) hapn
    refine ⟨fun i1 i2 x y h1 h2 exy => ?_, fun i x hi => ?_⟩
    · by_cases a1 : i1 < ws.length
      · rw [List.getElem?_append_left a1] at h1
        by_cases a2 : i2 < ws.length
        · rw [List.getElem?_append_left a2] at h2
          exact hD.1 i1 i2 x y h1 h2 exy
        · rw [List.getElem?_append_right (by omega)] at h2
          have := hne i1 x h1
          rcases hcc _ y h2 with w | w
          · exact absurd (exy.trans w) this.1
          · rw [← exy] at w; omega
      · rw [List.getElem?_append_right (by omega)] at h1
        by_cases a2 : i2 < ws.length
        · rw [List.getElem?_append_left a2] at h2
          have := hne i2 y h2
          rcases hcc _ x h1 with w | w
          · exact absurd (exy.symm.trans w) this.1
          · rw [exy] at w; omega
        · rw [List.getElem?_append_right (by omega)] at h2
          have := hDm.1 _ _ x y h1 h2 exy
          omega
    · by_cases a1 : i < ws.length
      · rw [List.getElem?_append_left a1] at hi
        exact hD.2 i x hi
      · rw [List.getElem?_append_right (by omega)] at hi
        rcases hcc _ x hi with w | w
        · rw [w]; exact hAq
        · exact hA _ (Nat.le_trans hS1.1 w)
  obtain ⟨t2, a1, b1⟩ := k ad M T'.heap (locs ++ L) hhi hφ hapn (by rw [e1]; exact hPk.app hPn) hDn ⟨Nat.le_trans hS1.1 (by rw [e1]; exact hz), fun x h1 h2 => by rw [e1, hk x (Nat.lt_of_lt_of_le h1 hS1.1) (fun w => h2 (hsub x w))]; exact hS1.2.1 x h1 h2, fun x hx' => by
      rcases List.mem_append.mp hx' with h | h
      · exact hS1.2.2 x h
      · exact hsub _ (hL x h)⟩ T' rfl X'
  rw [had] at a1
  exact ⟨t2, st t2 a1, b1⟩
end CONS
