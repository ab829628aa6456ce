/-! The memory of the whole system as tables of numbers: a cell's ints (and longs), by the cell's number. Cells 0 .. 34 are the class's, 35 .. 59 the reference's. -/
abbrev mm_M : Type := (Nat → Nat → Int32) × (Nat → Nat → Int64)
def mm_si (M : mm_M) (c : Nat) (r : Nat → Int32) : mm_M := (fun a => if a = c then r else M.1 a, M.2)
def mm_sl (M : mm_M) (c : Nat) (r : Nat → Int64) : mm_M := (M.1, fun a => if a = c then r else M.2 a)
/-- where the cells lie, which there are, the classes, the array classes, the launch -/
abbrev mm_E : Type := (Nat → Nat) × List Nat × va_G × (ClassId × ClassId × ClassId) × Launch
def mm_tys (E : mm_E) : List (ClassId × FieldType) := [(E.2.2.2.1.1, .int), (E.2.2.2.1.2.1, .long), (E.2.2.2.1.2.2, .boolean)]
/-- what a cell is -/
def mm_cl (E : mm_E) (i : Nat → Int32) (j : Nat → Int64) : Nat → va_E
  | 0 => .inr (0, [.long (j 0)])
  | 1 => .inr (1, [.ref (E.1 8), .ref (E.1 9), .ref (E.1 10), .int (i 3), .int (i 4), .int (i 5), .int (i 6)])
  | 2 => .inr (2, [.ref (E.1 11), .int (i 1)])
  | 3 => .inr (3, [.ref (E.1 12), .ref (E.1 13), .ref (E.1 14), .ref (E.1 15), .ref (E.1 16), .ref (E.1 17), .ref (E.1 18), .ref (E.1 19), .int (i 8)])
  | 4 => .inr (4, [.ref (E.1 20), .ref (E.1 21), .ref (E.1 22), .ref (E.1 23), .ref (E.1 24), .int (i 5)])
  | 5 => .inr (5, [.ref (E.1 25), .ref (E.1 26), .ref (E.1 27), .ref (E.1 28), .ref (E.1 29), .int (i 5), .int (i 6)])
  | 6 => .inr (6, [.ref (E.1 30), .ref (E.1 31), .ref (E.1 32), .ref (E.1 33), .ref (E.1 34), .int (i 5), .int (i 6)])
  | 7 => .inr (7, [.ref (E.1 1), .ref (E.1 0), .ref (E.1 4), .ref (E.1 2), .ref (E.1 3), .ref (E.1 6), .ref (E.1 5)])
  | 8 => .inl (E.2.2.2.1.1, 8, .inl i)
  | 9 => .inl (E.2.2.2.1.1, 8, .inl i)
  | 10 => .inl (E.2.2.2.1.1, 160, .inl i)
  | 11 => .inl (E.2.2.2.1.1, 8, .inl i)
  | 12 => .inl (E.2.2.2.1.1, 200, .inl i)
  | 13 => .inl (E.2.2.2.1.1, 200, .inl i)
  | 14 => .inl (E.2.2.2.1.1, 200, .inl i)
  | 15 => .inl (E.2.2.2.1.2.2, 200, .inl i)
  | 16 => .inl (E.2.2.2.1.1, 192, .inl i)
  | 17 => .inl (E.2.2.2.1.1, 24, .inl i)
  | 18 => .inl (E.2.2.2.1.1, 24, .inl i)
  | 19 => .inl (E.2.2.2.1.1, 8, .inl i)
  | 20 => .inl (E.2.2.2.1.1, 24, .inl i)
  | 21 => .inl (E.2.2.2.1.1, 24, .inl i)
  | 22 => .inl (E.2.2.2.1.1, 24, .inl i)
  | 23 => .inl (E.2.2.2.1.1, 24, .inl i)
  | 24 => .inl (E.2.2.2.1.2.2, 24, .inl i)
  | 25 => .inl (E.2.2.2.1.1, 8, .inl i)
  | 26 => .inl (E.2.2.2.1.1, 6, .inl i)
  | 27 => .inl (E.2.2.2.1.1, 256, .inl i)
  | 28 => .inl (E.2.2.2.1.1, 256, .inl i)
  | 29 => .inl (E.2.2.2.1.1, 256, .inl i)
  | 30 => .inl (E.2.2.2.1.1, 72, .inl i)
  | 31 => .inl (E.2.2.2.1.1, 96, .inl i)
  | 32 => .inl (E.2.2.2.1.1, 3, .inl i)
  | 33 => .inl (E.2.2.2.1.2.1, 72, .inr (.inl j))
  | 34 => .inl (E.2.2.2.1.1, 96, .inl i)
  | 35 => .inr (8, [.ref (E.1 36), .ref (E.1 37), .ref (E.1 38), .int (i 3), .int (i 4), .int (i 5), .int (i 6), .int (i 7), .int (i 8), .int (i 9), .ref (E.1 39), .ref (E.1 40), .ref (E.1 41), .ref (E.1 42), .ref (E.1 43), .int (i 15), .ref (E.1 44), .int (i 17), .ref (E.1 45), .ref (E.1 46), .ref (E.1 47), .int (i 21), .ref (E.1 48), .ref (E.1 49), .ref (E.1 50), .int (i 25), .ref (E.1 51), .int (i 27), .ref (E.1 52), .ref (E.1 53), .ref (E.1 54), .int (i 31), .ref (E.1 55), .ref (E.1 56), .ref (E.1 57), .ref (E.1 58), .ref (E.1 59)])
  | 36 => .inl (E.2.2.2.1.1, 8, .inl i)
  | 37 => .inl (E.2.2.2.1.1, 8, .inl i)
  | 38 => .inl (E.2.2.2.1.1, 160, .inl i)
  | 39 => .inl (E.2.2.2.1.1, 24, .inl i)
  | 40 => .inl (E.2.2.2.1.1, 24, .inl i)
  | 41 => .inl (E.2.2.2.1.1, 24, .inl i)
  | 42 => .inl (E.2.2.2.1.2.2, 24, .inl i)
  | 43 => .inl (E.2.2.2.1.1, 24, .inl i)
  | 44 => .inl (E.2.2.2.1.1, 8, .inl i)
  | 45 => .inl (E.2.2.2.1.1, 200, .inl i)
  | 46 => .inl (E.2.2.2.1.1, 200, .inl i)
  | 47 => .inl (E.2.2.2.1.1, 200, .inl i)
  | 48 => .inl (E.2.2.2.1.1, 72, .inl i)
  | 49 => .inl (E.2.2.2.1.1, 96, .inl i)
  | 50 => .inl (E.2.2.2.1.1, 3, .inl i)
  | 51 => .inl (E.2.2.2.1.2.1, 3, .inr (.inl j))
  | 52 => .inl (E.2.2.2.1.1, 3, .inl i)
  | 53 => .inl (E.2.2.2.1.1, 12, .inl i)
  | 54 => .inl (E.2.2.2.1.1, 3, .inl i)
  | 55 => .inl (E.2.2.2.1.1, 8, .inl i)
  | 56 => .inl (E.2.2.2.1.1, 6, .inl i)
  | 57 => .inl (E.2.2.2.1.1, 256, .inl i)
  | 58 => .inl (E.2.2.2.1.1, 256, .inl i)
  | 59 => .inl (E.2.2.2.1.1, 256, .inl i)
  | _ => .inr (0, [])
def mm_wd (E : mm_E) (M : mm_M) : va_W := E.2.1.map (fun c => (E.1 c, mm_cl E (M.1 c) (M.2 c) c))
def mm_A (E : mm_E) (sz : Nat) : Nat → Prop := fun q => (∃ c, c ∈ E.2.1 ∧ q = E.1 c) ∨ sz ≤ q
def mm_ap (E : mm_E) : Prop := va_nd E.2.1 = true ∧ ∀ i, i ∈ E.2.1 → ∀ j, j ∈ E.2.1 → E.1 i = E.1 j → i = j
theorem mm_pos {E : mm_E} {c : Nat} (hc : c ∈ E.2.1) : ∃ k : Nat, E.2.1[k]? = some c ∧ ∀ M : mm_M, (mm_wd E M)[k]? = some (E.1 c, mm_cl E (M.1 c) (M.2 c) c) := by
  obtain ⟨k, hk⟩ := List.getElem?_of_mem hc
  exact ⟨k, hk, fun M => by simp [mm_wd, List.getElem?_map, hk]⟩
theorem mm_wdk {E : mm_E} {M : mm_M} {k : Nat} {q : Nat × va_E} (h : (mm_wd E M)[k]? = some q) : ∃ c : Nat, E.2.1[k]? = some c ∧ q = (E.1 c, mm_cl E (M.1 c) (M.2 c) c) := by
  rw [mm_wd, List.getElem?_map] at h
  cases hc : E.2.1[k]? with
  | none => rw [hc] at h; cases h
  | some c => rw [hc] at h; exact ⟨c, rfl, (Option.some.inj h).symm⟩
theorem mm_vaD {E : mm_E} {M : mm_M} {sz : Nat} (h : mm_ap E) : va_D (mm_A E sz) (mm_wd E M) := by
  refine ⟨fun i j p q hi hj hpq => ?_, fun k q hk => ?_⟩
  · obtain ⟨a, ha, rfl⟩ := mm_wdk hi
    obtain ⟨b, hb, rfl⟩ := mm_wdk hj
    have e : a = b := h.2 a (List.mem_of_getElem? ha) b (List.mem_of_getElem? hb) hpq
    subst e
    exact va_nd_inj _ h.1 i j a ha hb
  · obtain ⟨a, ha, rfl⟩ := mm_wdk hk
    exact Or.inl ⟨a, List.mem_of_getElem? ha, rfl⟩
theorem mm_set {E : mm_E} {M M' : mm_M} {k c : Nat} {x : va_E} (hn : va_nd E.2.1 = true) (hk : E.2.1[k]? = some c) (he : mm_cl E (M'.1 c) (M'.2 c) c = x) (ho : ∀ d, d ≠ c → M'.1 d = M.1 d ∧ M'.2 d = M.2 d) : (mm_wd E M).set k (E.1 c, x) = mm_wd E M' := by
  apply List.ext_getElem?
  intro j
  have hl : k < (mm_wd E M).length := by
    have := (List.getElem?_eq_some_iff.mp hk).1
    simpa [mm_wd] using this
  by_cases hj : j = k
  · subst hj
    rw [List.getElem?_set_self hl]
    simp [mm_wd, List.getElem?_map, hk, he]
  · rw [List.getElem?_set_ne (Ne.symm hj)]
    cases hd : E.2.1[j]? with
    | none => simp [mm_wd, List.getElem?_map, hd]
    | some d =>
      have hdc : d ≠ c := fun e => hj (va_nd_inj _ hn j k c (by rw [hd, e]) hk)
      simp [mm_wd, List.getElem?_map, hd, ho d hdc]
/-! what every state tells beside the world: private members of nest mates, static tables, texts -/
def mm_low (j : Nat) : Int32 := [0, 0, 0, 0, 34, 1, 1, 34].getD j 0
def mm_high (j : Nat) : Int32 := [100, 100, 100, 99, 99, 8, 9, 99].getD j 0
def mm_first (j : Nat) : Int32 := [90, 60, 30, 5, 90, 8, 3, 95].getD j 0
def mm_TA (n : String) (f : Nat → Int32) (A : Nat → Prop) (U : State) (H : Heap) : Prop := ∃ t : Nat, va_Z "LooksByMany$Laws" n "[I" (.ref t) A U H ∧ va_T .int t 8 (fun j => .int (f j)) A U H
def mm_Nn (U : State) : Prop := va_Nw (.methodLinkNest RX1 49 yX7_oneIf "LooksByMany") U ∧ va_Nw (.methodLinkNest RX3 45 yX7_oneIf "LooksByMany") U ∧ va_Nw (.methodLinkNest RX4 39 yX7_oneIf "LooksByMany") U ∧ va_Nw (.methodLinkNest RX5 62 yX7_isIn "LooksByMany") U
/-- the words of the laws: String constants at E.1 100 .. 107, their bytes at E.1 200 .. 207 -/
def mm_tx (i : Nat) : String := ["sharp", "far", "lean", "tire", "line", "most", "patience", "sure"].getD i ""
def mm_tl : List Nat := [5, 3, 4, 4, 4, 4, 8, 4]
def mm_tb : List (List Int32) := [[115, 104, 97, 114, 112], [102, 97, 114], [108, 101, 97, 110], [116, 105, 114, 101], [108, 105, 110, 101], [109, 111, 115, 116], [112, 97, 116, 105, 101, 110, 99, 101], [115, 117, 114, 101]]
def mm_NS (E : mm_E) (A : Nat → Prop) (U : State) (H : Heap) : Prop := (∀ i, i < 8 → vk_R RX1 (113 + 2 * i) (mm_tx i) (E.1 (100 + i)) U) ∧ vk_S 8 mm_tl mm_tb (fun i => E.1 (100 + i)) (fun i => E.1 (200 + i)) A U H ∧ va_Z "java/lang/String" "COMPACT_STRINGS" "Z" (.int 1) A U H ∧ va_Zq "jdk/internal/util/Preconditions" "SIOOBE_FORMATTER" "Ljava/util/function/BiFunction;" A U H
theorem mm_NS.same {E : mm_E} {A : Nat → Prop} {u U : State} {H : Heap} (h : u.vm = U.vm) (q : mm_NS E A u H) : mm_NS E A U H := by
  have ha : u.vm.Alike U.vm := by rw [h]; exact Vm.Alike.refl _
  exact ⟨fun i hi => vk_R.same h.symm (q.1 i hi), vk_S.moved ha q.2.1, va_Z.moved ha q.2.2.1, va_Zq.moved ha q.2.2.2⟩
theorem mm_NS.warm {E : mm_E} {A B : Nat → Prop} {s U : State} {H H1 : Heap} (hW : s.WarmedH U.vm) (hAB : ∀ x, B x → A x) (hq : ∀ a : Nat, a < H.size → ¬ A a → H1[a]? = H[a]?) (q : mm_NS E A s H) : mm_NS E B U H1 :=
  ⟨fun i hi => vk_R.warm hW (q.1 i hi), vk_S.narrow (vk_S.kept (vk_S.moved hW.alike q.2.1) hq) hAB, va_Z.narrow (va_Z.kept (va_Z.moved hW.alike q.2.2.1) hq) hAB, va_Zq.narrow (va_Zq.kept (va_Zq.moved hW.alike q.2.2.2) hq) hAB⟩
def mm_N (E : mm_E) (A : Nat → Prop) (U : State) (H : Heap) : Prop := mm_Nn U ∧ mm_TA "AT_FIRST" mm_first A U H ∧ mm_TA "LEAST" mm_low A U H ∧ mm_TA "GREATEST" mm_high A U H ∧ mm_NS E A U H
theorem mm_Nn.same {u U : State} (h : u.vm = U.vm) (q : mm_Nn u) : mm_Nn U := ⟨va_Nw.same rfl h q.1, va_Nw.same rfl h q.2.1, va_Nw.same rfl h q.2.2.1, va_Nw.same rfl h q.2.2.2⟩
theorem mm_Nn.warm {s U : State} (hW : s.WarmedH U.vm) (q : mm_Nn s) : mm_Nn U := ⟨va_Nw.warmM hW q.1, va_Nw.warmM hW q.2.1, va_Nw.warmM hW q.2.2.1, va_Nw.warmM hW q.2.2.2⟩
theorem mm_TA.moved {n : String} {f : Nat → Int32} {A : Nat → Prop} {u U : State} {H : Heap} (h : u.vm.Alike U.vm) (q : mm_TA n f A u H) : mm_TA n f A U H := by
  obtain ⟨t, a, b⟩ := q
  exact ⟨t, va_Z.moved h a, va_T.moved h b⟩
theorem mm_TA.kept {n : String} {f : Nat → Int32} {A B : Nat → Prop} {U : State} {H H1 : Heap} (q : mm_TA n f A U H) (hAB : ∀ x, B x → A x) (hq : ∀ a : Nat, a < H.size → ¬ A a → H1[a]? = H[a]?) : mm_TA n f B U H1 := by
  obtain ⟨t, a, b⟩ := q
  exact ⟨t, va_Z.narrow (va_Z.kept a hq) hAB, va_T.narrow (va_T.kept b hq) hAB⟩
theorem mm_N.same {E : mm_E} {A : Nat → Prop} {u U : State} {H : Heap} (h : u.vm = U.vm) (q : mm_N E A u H) : mm_N E A U H := by
  have ha : u.vm.Alike U.vm := by rw [h]; exact Vm.Alike.refl _
  exact ⟨q.1.same h, q.2.1.moved ha, q.2.2.1.moved ha, q.2.2.2.1.moved ha, q.2.2.2.2.same h⟩
theorem mm_N.warm {E : mm_E} {A B : Nat → Prop} {s U : State} {H H1 : Heap} (hW : s.WarmedH U.vm) (hAB : ∀ x, B x → A x) (hq : ∀ a : Nat, a < H.size → ¬ A a → H1[a]? = H[a]?) (q : mm_N E A s H) : mm_N E B U H1 :=
  ⟨q.1.warm hW, (q.2.1.moved hW.alike).kept hAB hq, (q.2.2.1.moved hW.alike).kept hAB hq, (q.2.2.2.1.moved hW.alike).kept hAB hq, q.2.2.2.2.warm hW hAB hq⟩
/-! contracts -/
/-- a method: name, code, locals, what it returns, how deep its calls go -/
abbrev mm_I : Type := MethodName × ByteArray × Nat × Option FieldType × Nat
def mm_ws (i : mm_I) : List Cond := Cond.code i.1 i.2.1 i.2.2.1 i.2.2.2.1 :: GW
def mm_rm (n : Nat) : Room := { frames := n, cells := 0, slots := 0, locals := 29 * n }
def mm_Q (E : mm_E) (post : Option Value → mm_M → Prop) (A : Nat → Prop) : Array Value → State → Outcome → State → Prop := fun _ st oc t => (∃ (r : Option Value) (M : mm_M), oc = .returned r ∧ post r M ∧ va_P E.2.2.1 vwCl (mm_wd E M) t.heap) ∧ va_F A st t
def mm_Pr (E : mm_E) (M : mm_M) (sz : Nat) (U : State) : Prop := U.heap.size = sz ∧ va_P E.2.2.1 vwCl (mm_wd E M) U.heap ∧ va_K E.2.2.1 vwCl (mm_tys E) U ∧ mm_ap E ∧ mm_N E (mm_A E sz) U U.heap
def mm_Cal (E : mm_E) (i : mm_I) (av : List Value) (M : mm_M) (post : Option Value → mm_M → Prop) : Prop :=
  ∀ sz : Nat, Met E.2.2.2.2 i.1 (mm_ws i) (mm_rm i.2.2.2.2) (va_Pc av (mm_Pr E M sz)) (mm_Q E post (mm_A E sz)) 0 0 (mm_A E sz)
/-- the frame of a walk: program, environment, state at the entry, method, arguments, what is below, the method's class and code -/
abbrev mm_G : Type := Program × Env × State × MethodId × Array Value × List Frame × Method × Code
def mm_J (g : mm_G) (E : mm_E) (i : mm_I) (post : Option Value → mm_M → Prop) (pc : Nat) (lv : List (Nat × Value)) (st : List Value) (M : mm_M) : Prop :=
  ∀ (H : Heap) (locs : List Loc) (ls : Array Slot), va_P E.2.2.1 vwCl (mm_wd E M) H → va_S (mm_A E g.2.2.1.heap.size) g.2.2.1.heap H locs → lv_has ls i.2.2.1 lv →
    W g.1 E.2.2.2.2 g.2.1 (mm_rm i.2.2.2.2) g.2.2.1 g.2.2.2.1 g.2.2.2.2.1 g.2.2.2.2.2.1 g.2.2.2.2.2.2.1 g.2.2.2.2.2.2.2 H locs 0 0 (MQ g.2.2.2.2.2.1 (mm_Q E post (mm_A E g.2.2.1.heap.size)) g.2.2.2.2.1 g.2.2.1 0 0 (mm_A E g.2.2.1.heap.size)) (F0 g.2.2.2.1 pc ls st)
def mm_Ok (g : mm_G) (E : mm_E) (i : mm_I) (own : String) : Prop :=
  g.1.tables.exec = Jvm.exec ∧ g.2.2.2.2.2.2.2.code = i.2.1 ∧ g.2.2.2.2.2.2.1.sig.returnType = i.2.2.2.1 ∧ g.2.2.2.2.2.2.2.maxLocals = i.2.2.1 ∧ g.2.2.1.vm.findClass own = some g.2.2.2.1.cls ∧ (∀ w ∈ GW, w.before g.2.2.2.2.1 g.2.2.1 = true) ∧
    va_K E.2.2.1 vwCl (mm_tys E) g.2.2.1 ∧ mm_ap E ∧ g.2.2.2.2.2.2.1.locks = false ∧ mm_N E (mm_A E g.2.2.1.heap.size) g.2.2.1 g.2.2.1.heap
def ret1 (v : Value) (M1 : mm_M) : Option Value → mm_M → Prop := fun r M => r = some v ∧ M = M1
def ret0 (M1 : mm_M) : Option Value → mm_M → Prop := fun r M => r = none ∧ M = M1
section MROW
variable {g : mm_G} {E : mm_E} {i : mm_I} {own : String} {post : Option Value → mm_M → Prop} {pc : Nat} {lv : List (Nat × Value)} {rest : List Value} {M : mm_M}
theorem jr_entry {av : List Value} (own : String) (hy : plainName i.1.cls = true ∧ i.1.cls = own) (hlen : (lg_sl av).length ≤ i.2.2.1) (h : ∀ g : mm_G, mm_Ok g E i own → mm_J g E i post 0 (lv_args 0 av) [] M) : mm_Cal E i av M post := by
  intro sz
  refine Met.ofW (cc := i.2.1) (maxL := i.2.2.1) (ret := i.2.2.2.1) hy.1 rfl ?_
  intro p e s m args below meth c s₁ B hml hv
  obtain ⟨rfl, hsz, hP, hK, hD, hN⟩ := hv
  subst hsz
  have hts := atoms_spec (ws := mm_ws i) B.pre
  have hown : s.vm.findClass own = some m.cls := by rw [← hy.2]; exact findClass_of_methodNamed B.named
  have hl := lv_entry av hlen
  rw [lg_entry_eq]
  exact h (p, e, s, m, av.toArray, below, meth, c) ⟨B.exec, B.bytes, B.returns, hml, hown, fun w hw => hts w (List.mem_cons_of_mem _ hw), hK, hD, B.notSynchronized, hN⟩ s.heap [] _ hP va_S.rf hl
theorem jr_lv {lv' : List (Nat × Value)} {st : List Value} (ks : List Nat) (h : lv_pick lv ks = lv') (k : mm_J g E i post pc lv' st M) : mm_J g E i post pc lv st M := fun H locs ls hP hS hl => k H locs ls hP hS (lv_sub hl ks h)
theorem jr_st {st st' : List Value} (h : st = st') (k : mm_J g E i post pc lv st' M) : mm_J g E i post pc lv st M := h ▸ k
theorem jr_mem {M' : mm_M} {st : List Value} (h : M = M') (k : mm_J g E i post pc lv st M') : mm_J g E i post pc lv st M := h ▸ k
/-- a call's result, in other words -/
theorem mm_Cal.to {av : List Value} {post' : Option Value → mm_M → Prop} (h : mm_Cal E i av M post) (hp : ∀ r M, post r M → post' r M) : mm_Cal E i av M post' := by
  intro sz p e ha hc hk s m args below hf happ hP hK
  obtain ⟨k, o, h1, h2, h3, ⟨⟨r, M1, a1, a2, a3⟩, hF⟩, h5⟩ := h sz p e ha hc hk s m args below hf happ hP hK
  exact ⟨k, o, h1, h2, h3, ⟨⟨r, M1, a1, hp _ _ a2, a3⟩, hF⟩, h5⟩
end MROW
