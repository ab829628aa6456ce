theorem z255 {i : Nat} (hi : i < 8) : Nat.testBit 255 i = true := by
  rcases (show i = 0 ∨ i = 1 ∨ i = 2 ∨ i = 3 ∨ i = 4 ∨ i = 5 ∨ i = 6 ∨ i = 7 by omega) with r | r | r | r | r | r | r | r <;> subst r <;> decide
/-- how many things a set has -/
def z_pc (S : Nat) : Nat := zcnt (fun t => S.testBit t) 8
theorem z_pc_split (S Y : Nat) : z_pc (S &&& Y) + z_pc (z_no S Y) = z_pc S := by
  have h : ∀ n, n ≤ 8 → zcnt (fun t => (S &&& Y).testBit t) n + zcnt (fun t => (z_no S Y).testBit t) n = zcnt (fun t => S.testBit t) n := by
    intro n
    induction n with
    | zero => intro _; rfl
    | succ n ih =>
      intro hn
      have := ih (by omega)
      rw [zcnt_s, zcnt_s, zcnt_s]
      have e : ((S &&& Y).testBit n).toNat + ((z_no S Y).testBit n).toNat = (S.testBit n).toNat := by
        rw [z_no, Nat.testBit_and, Nat.testBit_and, Nat.testBit_xor, z255 (by omega)]
        cases S.testBit n <;> cases Y.testBit n <;> rfl
      omega
  exact h 8 (Nat.le_refl _)
theorem z_pc_pos {S : Nat} (h : S ≠ 0) (hS : S < 256) : 1 ≤ z_pc S := by
  rcases Nat.eq_zero_or_pos (z_pc S) with e | e
  · exfalso
    apply h
    apply Nat.eq_of_testBit_eq
    intro i
    rw [Nat.zero_testBit]
    by_cases hi : i < 8
    · have hz : ∀ n, n ≤ 8 → zcnt (fun t => S.testBit t) n = 0 := fun n hn => by have := zcnt_mono (fun t => S.testBit t) hn; have e2 : zcnt (fun t => S.testBit t) 8 = 0 := e; omega
      have h1 := hz (i + 1) (by omega)
      rw [zcnt_s] at h1
      have h2 : (S.testBit i).toNat = 0 := by omega
      cases q : S.testBit i with
      | false => rfl
      | true => rw [q] at h2; exact absurd h2 (by decide)
    · exact Nat.testBit_lt_two_pow (Nat.lt_of_lt_of_le hS (show 2 ^ 8 ≤ 2 ^ i from Nat.pow_le_pow_right (by decide) (by omega)))
  · exact e
theorem z_pc_le (S : Nat) : z_pc S ≤ 8 := zcnt_le _ _
/-- the entry of a set -/
def z_e (w q : Nat → Nat) (S : Nat) : Nat × Nat × Nat := z_en w q (z_tr w q S) S
theorem z_tr_e (w q : Nat → Nat) {S n : Nat} (h : S < n) : z_tr w q n S = z_e w q S := by
  induction n with
  | zero => omega
  | succ n ih =>
    show (if S = n then z_en w q (z_tr w q n) n else z_tr w q n S) = z_e w q S
    by_cases e : S = n
    · rw [if_pos e, e]; rfl
    · rw [if_neg e]; exact ih (by omega)
theorem z_be_congr {q T T' : Nat → Nat} {S : Nat} (hS : S < 256) (hq : ∀ k, k < 6 → q k < 256) (h : ∀ x, x < S → T x = T' x) : ∀ k, k ≤ 6 → z_be q T S k = z_be q T' S k := by
  intro k
  induction k with
  | zero => intro _; rfl
  | succ k ih =>
    intro hk
    have e := zsplit S hS (q k) (hq k (by omega))
    rw [z_be, z_be, ih (by omega)]
    by_cases c : S &&& q k ≠ 0 ∧ z_no S (q k) ≠ 0
    · rw [h (S &&& q k) (by omega), h (z_no S (q k)) (by omega)]
    · rw [if_neg (fun z => c z.1), if_neg (fun z => c z.1)]
theorem z_be_spec {q T : Nat → Nat} {S : Nat} : ∀ k, (z_be q T S k).1 ≠ 0 → ∃ j, j < k ∧ (z_be q T S k).1 = j + 1 ∧ S &&& q j ≠ 0 ∧ z_no S (q j) ≠ 0 ∧ (z_be q T S k).2 = T (S &&& q j) + T (z_no S (q j)) := by
  intro k
  induction k with
  | zero => intro h; exact absurd rfl h
  | succ k ih =>
    intro h
    rw [z_be] at h ⊢
    by_cases c : (S &&& q k ≠ 0 ∧ z_no S (q k) ≠ 0) ∧ ((z_be q T S k).1 = 0 ∨ T (S &&& q k) + T (z_no S (q k)) < (z_be q T S k).2)
    · rw [if_pos c]
      exact ⟨k, by omega, rfl, c.1.1, c.1.2, rfl⟩
    · rw [if_neg c] at h ⊢
      obtain ⟨j, a, b⟩ := ih h
      exact ⟨j, by omega, b⟩
/-- the numbers of a set by those of smaller sets, all by entries -/
def z_ak (w q : Nat → Nat) : Nat → Nat := fun x => (z_e w q x).1
theorem z_e_eq {w q : Nat → Nat} {S : Nat} (hS : S < 256) (hq : ∀ k, k < 6 → q k < 256) : z_e w q S = (if (z_be q (z_ak w q) S 6).1 = 0 then (0, 0, 0) else
    (z_ws w S 8 + (z_be q (z_ak w q) S 6).2, (z_be q (z_ak w q) S 6).1, 1 + max (z_e w q (S &&& q ((z_be q (z_ak w q) S 6).1 - 1))).2.2 (z_e w q (z_no S (q ((z_be q (z_ak w q) S 6).1 - 1)))).2.2)) := by
  have hb : z_be q (fun x => (z_tr w q S x).1) S 6 = z_be q (z_ak w q) S 6 := z_be_congr hS hq (fun x hx => by rw [z_tr_e w q hx]; rfl) 6 (Nat.le_refl _)
  rw [z_e, z_en, hb]
  by_cases c : (z_be q (z_ak w q) S 6).1 = 0
  · rw [if_pos c, if_pos c]
  · rw [if_neg c, if_neg c]
    obtain ⟨j, hj, e, y, n, -⟩ := z_be_spec 6 c
    have sp := zsplit S hS (q j) (hq j hj)
    rw [e, Nat.add_sub_cancel, z_tr_e w q (show S &&& q j < S by omega), z_tr_e w q (show z_no S (q j) < S by omega)]
theorem z_ws_le {w : Nat → Nat} (hw : ∀ t, t < 8 → w t ≤ 99) (S : Nat) : ∀ n, n ≤ 8 → z_ws w S n ≤ 99 * n := by
  intro n
  induction n with
  | zero => intro _; exact Nat.le_refl _
  | succ n ih =>
    intro hn
    have a := ih (by omega)
    have b := hw n (by omega)
    rw [z_ws]; split <;> omega
theorem z_e_le {w q : Nat → Nat} (hw : ∀ t, t < 8 → w t ≤ 99) (hq : ∀ k, k < 6 → q k < 256) : ∀ S, S < 256 → (z_e w q S).1 ≤ 800 * (S - 1) ∧ (z_e w q S).2.2 ≤ S ∧ (z_e w q S).2.1 ≤ 6 := by
  intro S
  induction S using Nat.strongRecOn with
  | ind S ih =>
    intro hS
    rw [z_e_eq hS hq]
    by_cases c : (z_be q (z_ak w q) S 6).1 = 0
    · rw [if_pos c]; exact ⟨Nat.zero_le _, Nat.zero_le _, Nat.zero_le _⟩
    · rw [if_neg c]
      obtain ⟨j, hj, e, y, n, e2⟩ := z_be_spec 6 c
      have sp := zsplit S hS (q j) (hq j hj)
      have a := ih (S &&& q j) (by omega) (by omega)
      have b := ih (z_no S (q j)) (by omega) (by omega)
      have ws := z_ws_le hw S 8 (Nat.le_refl _)
      rw [e, Nat.add_sub_cancel, e2]
      refine ⟨?_, ?_, by show j + 1 ≤ 6; omega⟩
      · show z_ws w S 8 + ((z_e w q (S &&& q j)).1 + (z_e w q (z_no S (q j))).1) ≤ 800 * (S - 1)
        omega
      · show 1 + max (z_e w q (S &&& q j)).2.2 (z_e w q (z_no S (q j))).2.2 ≤ S
        omega
theorem z_be_le {w q : Nat → Nat} (hw : ∀ t, t < 8 → w t ≤ 99) (hq : ∀ k, k < 6 → q k < 256) {S : Nat} (hS : S < 256) : ∀ k, k ≤ 6 → (z_be q (z_ak w q) S k).2 ≤ 204000 ∧ (z_be q (z_ak w q) S k).1 ≤ k := by
  intro k
  induction k with
  | zero => intro _; exact ⟨Nat.zero_le _, Nat.le_refl _⟩
  | succ k ih =>
    intro hk
    have h0 := ih (by omega)
    have sp := zsplit S hS (q k) (hq k (by omega))
    have a := (z_e_le hw hq (S &&& q k) (by omega)).1
    have b := (z_e_le hw hq (z_no S (q k)) (by omega)).1
    rw [z_be]; split
    · refine ⟨?_, Nat.le_refl _⟩
      show (z_e w q (S &&& q k)).1 + (z_e w q (z_no S (q k))).1 ≤ 204000
      omega
    · exact ⟨h0.1, by omega⟩
def z_si (q : Nat → Nat) (S k t : Nat) : Nat := if (q k).testBit t then S &&& q k else z_no S (q k)
def z_wf (w q : Nat → Nat) (t : Nat) : Nat → Nat → Nat
  | 0, S => S
  | f + 1, S => if (z_e w q S).2.1 = 0 then S else z_wf w q t f (z_si q S ((z_e w q S).2.1 - 1) t)
def z_wt (w q : Nat → Nat) (n t : Nat) : Nat := if (z_e w q (2 ^ n - 1)).2.1 = 0 then 0 else z_wf w q t 8 (if (q ((z_e w q (2 ^ n - 1)).2.1 - 1)).testBit t then z_no (2 ^ n - 1) (q ((z_e w q (2 ^ n - 1)).2.1 - 1)) else (2 ^ n - 1) &&& q ((z_e w q (2 ^ n - 1)).2.1 - 1))
theorem z_e_first {w q : Nat → Nat} {S : Nat} (hS : S < 256) (hq : ∀ k, k < 6 → q k < 256) (h : (z_e w q S).2.1 ≠ 0) : (z_e w q S).2.1 - 1 < 6 ∧ S &&& q ((z_e w q S).2.1 - 1) ≠ 0 ∧ z_no S (q ((z_e w q S).2.1 - 1)) ≠ 0 := by
  rw [z_e_eq hS hq] at h ⊢
  by_cases c : (z_be q (z_ak w q) S 6).1 = 0
  · rw [if_pos c] at h; exact absurd rfl h
  · rw [if_neg c]
    obtain ⟨j, hj, e, y, n, -⟩ := z_be_spec 6 c
    rw [e, Nat.add_sub_cancel]
    exact ⟨hj, y, n⟩
/-- the tables of trees, as far as n -/
def zX_pl (s : zS) (n : Nat) (M : mm_M) : Prop := ∀ S, 1 ≤ S → S < n → M.1 27 S = nI (z_e (s 15) (s 16) S).1 ∧ M.1 28 S = zmv (z_e (s 15) (s 16) S).2.1 ∧ M.1 29 S = nI (z_e (s 15) (s 16) S).2.2
def zX_q0 (s : zS) (M : mm_M) : Prop := M.1 5 5 = nI (s 0 6) ∧ (∀ t, t < 8 → M.1 25 t = nI (s 15 t)) ∧ ∀ k, k < 6 → M.1 26 k = nI (s 16 k)
theorem zX_q_iff {s : zS} {M : mm_M} : zX_q s M ↔ zX_q0 s M ∧ (M.1 5 6 = nI 0 ∨ (M.1 5 6 = nI 1 ∧ zX_pl s (2 ^ s 0 6) M)) := by
  constructor
  · rintro ⟨a, b, c, d⟩
    refine ⟨⟨a, b, c⟩, ?_⟩
    rcases d with d | ⟨d, e⟩
    · exact Or.inl d
    · refine Or.inr ⟨d, fun S h1 h2 => ?_⟩
      rw [← z_tr_e (s 15) (s 16) h2]; exact e S h1 h2
  · rintro ⟨⟨a, b, c⟩, d⟩
    refine ⟨a, b, c, ?_⟩
    rcases d with d | ⟨d, e⟩
    · exact Or.inl d
    · refine Or.inr ⟨d, fun S h1 h2 => ?_⟩
      rw [z_tr_e (s 15) (s 16) h2]; exact e S h1 h2
theorem zW_q256 {s : zS} (h : zW_q s) : ∀ k, k < 6 → s 16 k < 256 := fun k hk => Nat.lt_of_lt_of_le (h.2.2.2 k hk) (zpow8 h.2.1)
theorem zX_q0_c {s : zS} {M M1 : mm_M} (h5 : M1.1 5 5 = M.1 5 5) (h : ∀ d, d ∈ [25, 26] → M1.1 d = M.1 d) (q : zX_q0 s M) : zX_q0 s M1 := by
  simp only [zX_q0, h5, h 25 (by decide), h 26 (by decide)]
  exact q

set_option maxRecDepth 100000 in
theorem c_X5_size {E : mm_E} (hI : mm_FX E) {M : mm_M} {s : zS} (hR : zX_q0 s M) (hW : zW_q s) : mm_Cal E mX5_size [.ref (E.1 5)] M (ret1 (.int (nI (s 0 6))) M) := by
  have hn2 := hW.1
  have hn8 := hW.2.1
  refine jr_entry RX5 (by decide +kernel) (Nat.le_of_ble_eq_true rfl) (fun g hg => ?_)
  refine jr_lv (lv' := [(0, .ref (E.1 5))]) [0] rfl ?_
  refine jr_aload_n hg 0 rfl rfl dX5_size_0 ?_
  refine gf_X5_31 hg (hI 5 (by decide)) dX5_size_1 ?_
  refine jr_top (hR.1) ?_
  exact jr_iret hg rfl dX5_size_4 (⟨rfl, rfl⟩)

set_option maxRecDepth 100000 in
theorem c_X5_hasThing_yes {E : mm_E} (hI : mm_FX E) {M : mm_M} {s : zS} (hR : zX_q0 s M) (hW : zW_q s) {j : Nat} (hj : j < s 0 6) : mm_Cal E mX5_hasThing [.ref (E.1 5), .int (nI j)] M (ret1 (.int (nI 1)) M) := by
  have hn2 := hW.1
  have hn8 := hW.2.1
  refine jr_entry RX5 (by decide +kernel) (Nat.le_of_ble_eq_true rfl) (fun g hg => ?_)
  refine jr_lv (lv' := [(0, .ref (E.1 5)), (1, .int (nI j))]) [0, 1] rfl ?_
  refine jr_iload_n hg 1 rfl rfl dX5_hasThing_0 ?_
  refine jr_if_ltN hg dX5_hasThing_1 (tgt := 25) (by decide) (by omega) ?_
  refine jr_iload_n hg 1 rfl rfl dX5_hasThing_4 ?_
  refine jr_aload_n hg 0 rfl rfl dX5_hasThing_5 ?_
  refine gf_X5_31 hg (hI 5 (by decide)) dX5_hasThing_6 ?_
  refine jr_top (hR.1) ?_
  refine jr_icmp_geN (tgt := 25) hg dX5_hasThing_9 (by decide) (by omega) (by omega) (fun h => by omega) (fun h9 => ?_)
  refine jr_iload_n hg 1 rfl rfl dX5_hasThing_12 ?_
  refine jr_aload_n hg 0 rfl rfl dX5_hasThing_13 ?_
  refine gf_X5_11 hg (hI 5 (by decide)) dX5_hasThing_14 ?_
  refine jr_alen hg (t0 := 0) (hI 25 (by decide)) (ac_25 _ _) rfl rfl dX5_hasThing_17 ?_
  refine jr_icmp_geN (tgt := 25) hg dX5_hasThing_18 (by decide) (by omega) (by omega) (fun h => by omega) (fun h18 => ?_)
  refine jr_iconst hg (nI 1) dX5_hasThing_21 (by decide) ?_
  refine jr_goto (tgt := 26) hg dX5_hasThing_22 (by decide) ?_
  exact jr_zret hg rfl (by first | exact Or.inl rfl | exact Or.inr rfl | exact z01 _) dX5_hasThing_26 (⟨rfl, rfl⟩)

set_option maxRecDepth 100000 in
theorem c_X5_hasThing_big {E : mm_E} (hI : mm_FX E) {M : mm_M} {s : zS} (hR : zX_q0 s M) (hW : zW_q s) {j : Nat} (hj : s 0 6 ≤ j) (hj2 : j < 2 ^ 31) : mm_Cal E mX5_hasThing [.ref (E.1 5), .int (nI j)] M (ret1 (.int (nI 0)) M) := by
  have hn2 := hW.1
  have hn8 := hW.2.1
  refine jr_entry RX5 (by decide +kernel) (Nat.le_of_ble_eq_true rfl) (fun g hg => ?_)
  refine jr_lv (lv' := [(0, .ref (E.1 5)), (1, .int (nI j))]) [0, 1] rfl ?_
  refine jr_iload_n hg 1 rfl rfl dX5_hasThing_0 ?_
  refine jr_if_ltN hg dX5_hasThing_1 (tgt := 25) (by decide) (by omega) ?_
  refine jr_iload_n hg 1 rfl rfl dX5_hasThing_4 ?_
  refine jr_aload_n hg 0 rfl rfl dX5_hasThing_5 ?_
  refine gf_X5_31 hg (hI 5 (by decide)) dX5_hasThing_6 ?_
  refine jr_top (hR.1) ?_
  refine jr_icmp_geN (tgt := 25) hg dX5_hasThing_9 (by decide) (by omega) (by omega) (fun h9 => ?_) (fun h => by omega)
  refine jr_iconst hg (nI 0) dX5_hasThing_25 (by decide) ?_
  exact jr_zret hg rfl (by first | exact Or.inl rfl | exact Or.inr rfl | exact z01 _) dX5_hasThing_26 (⟨rfl, rfl⟩)

set_option maxRecDepth 100000 in
theorem c_X5_hasThing_neg {E : mm_E} (hI : mm_FX E) {M : mm_M} {s : zS} (hR : zX_q0 s M) (hW : zW_q s) {x : Int32} (hx : x < 0) : mm_Cal E mX5_hasThing [.ref (E.1 5), .int x] M (ret1 (.int (nI 0)) M) := by
  have hn2 := hW.1
  have hn8 := hW.2.1
  refine jr_entry RX5 (by decide +kernel) (Nat.le_of_ble_eq_true rfl) (fun g hg => ?_)
  refine jr_lv (lv' := [(0, .ref (E.1 5)), (1, .int x)]) [0, 1] rfl ?_
  refine jr_iload_n hg 1 rfl rfl dX5_hasThing_0 ?_
  refine jr_if_lt (tgt := 25) hg dX5_hasThing_1 (by decide) (fun h1 => ?_) (fun h => absurd hx h)
  refine jr_iconst hg (nI 0) dX5_hasThing_25 (by decide) ?_
  exact jr_zret hg rfl (by first | exact Or.inl rfl | exact Or.inr rfl | exact z01 _) dX5_hasThing_26 (⟨rfl, rfl⟩)

theorem c_X5_hasThing {E : mm_E} (hI : mm_FX E) {M : mm_M} {s : zS} (hR : zX_q0 s M) (hW : zW_q s) (x : Int32) : mm_Cal E mX5_hasThing [.ref (E.1 5), .int x] M (ret1 (.int (nI (zin x (s 0 6)).toNat)) M) := by
  have hn := hW.2.1
  rcases zcase x (s 0 6) with h | ⟨j, h, h2, rfl⟩ | ⟨j, h, h2, rfl⟩
  · rw [zin_neg h]; exact c_X5_hasThing_neg hI hR hW h
  · rw [zin_t h (by omega)]; exact c_X5_hasThing_yes hI hR hW h
  · rw [zin_f h h2]; exact c_X5_hasThing_big hI hR hW h h2

set_option maxRecDepth 100000 in
theorem c_X5_isSet {E : mm_E} (hI : mm_FX E) {M : mm_M} {S : Nat} (hS : S < 256) : mm_Cal E mX5_isSet [.int (nI S)] M (ret1 (.int (nI 1)) M) := by
  refine jr_entry RX5 (by decide +kernel) (Nat.le_of_ble_eq_true rfl) (fun g hg => ?_)
  refine jr_lv (lv' := [(0, .int (nI S))]) [0] rfl ?_
  refine jr_iload_n hg 0 rfl rfl dX5_isSet_0 ?_
  refine jr_if_ltN hg dX5_isSet_1 (tgt := 15) (by decide) (by omega) ?_
  refine jr_iload_n hg 0 rfl rfl dX5_isSet_4 ?_
  refine jr_sipush hg (nI 256) dX5_isSet_5 (by decide) ?_
  refine jr_icmp_geN (tgt := 15) hg dX5_isSet_8 (by decide) (by omega) (by omega) (fun h => by omega) (fun h8 => ?_)
  refine jr_iconst hg (nI 1) dX5_isSet_11 (by decide) ?_
  refine jr_goto (tgt := 16) hg dX5_isSet_12 (by decide) ?_
  exact jr_zret hg rfl (by first | exact Or.inl rfl | exact Or.inr rfl | exact z01 _) dX5_isSet_16 (⟨rfl, rfl⟩)

set_option maxRecDepth 100000 in
theorem c_X5_plannedAsks {E : mm_E} (hI : mm_FX E) {M : mm_M} {S : Nat} (hS : S < 256) {x : Int32} (hx : M.1 27 S = x) : mm_Cal E mX5_plannedAsks [.ref (E.1 5), .int (nI S)] M (ret1 (.int x) M) := by
  refine jr_entry RX5 (by decide +kernel) (Nat.le_of_ble_eq_true rfl) (fun g hg => ?_)
  refine jr_lv (lv' := [(0, .ref (E.1 5)), (1, .int (nI S))]) [0, 1] rfl ?_
  refine jr_iload_n hg 1 rfl rfl dX5_plannedAsks_0 ?_
  refine jr_cS1v hg lk_X5_70 (by decide) (by decide) (Nat.le_of_ble_eq_true rfl) dX5_plannedAsks_1 (c_X5_isSet hI hS) ?_
  refine jr_if_eqN (tgt := 16) hg dX5_plannedAsks_4 (by decide) (by omega) (fun h => by omega) (fun h4 => ?_)
  refine jr_aload_n hg 0 rfl rfl dX5_plannedAsks_7 ?_
  refine gf_X5_18 hg (hI 5 (by decide)) dX5_plannedAsks_8 ?_
  refine jr_iload_n hg 1 rfl rfl dX5_plannedAsks_11 ?_
  refine jr_ialdN hg (n := 256) (by omega) (by decide) (hI 27 (by decide)) (ac_27 _ _) dX5_plannedAsks_12 ?_
  refine jr_top (hx) ?_
  refine jr_goto (tgt := 17) hg dX5_plannedAsks_13 (by decide) ?_
  exact jr_iret hg rfl dX5_plannedAsks_17 (⟨rfl, rfl⟩)

set_option maxRecDepth 100000 in
theorem c_X5_plannedFirst {E : mm_E} (hI : mm_FX E) {M : mm_M} {S : Nat} (hS : S < 256) {x : Int32} (hx : M.1 28 S = x) : mm_Cal E mX5_plannedFirst [.ref (E.1 5), .int (nI S)] M (ret1 (.int x) M) := by
  refine jr_entry RX5 (by decide +kernel) (Nat.le_of_ble_eq_true rfl) (fun g hg => ?_)
  refine jr_lv (lv' := [(0, .ref (E.1 5)), (1, .int (nI S))]) [0, 1] rfl ?_
  refine jr_iload_n hg 1 rfl rfl dX5_plannedFirst_0 ?_
  refine jr_cS1v hg lk_X5_70 (by decide) (by decide) (Nat.le_of_ble_eq_true rfl) dX5_plannedFirst_1 (c_X5_isSet hI hS) ?_
  refine jr_if_eqN (tgt := 16) hg dX5_plannedFirst_4 (by decide) (by omega) (fun h => by omega) (fun h4 => ?_)
  refine jr_aload_n hg 0 rfl rfl dX5_plannedFirst_7 ?_
  refine gf_X5_21 hg (hI 5 (by decide)) dX5_plannedFirst_8 ?_
  refine jr_iload_n hg 1 rfl rfl dX5_plannedFirst_11 ?_
  refine jr_ialdN hg (n := 256) (by omega) (by decide) (hI 28 (by decide)) (ac_28 _ _) dX5_plannedFirst_12 ?_
  refine jr_top (hx) ?_
  refine jr_goto (tgt := 17) hg dX5_plannedFirst_13 (by decide) ?_
  exact jr_iret hg rfl dX5_plannedFirst_17 (⟨rfl, rfl⟩)

set_option maxRecDepth 100000 in
theorem c_X5_plannedDepth {E : mm_E} (hI : mm_FX E) {M : mm_M} {S : Nat} (hS : S < 256) {x : Int32} (hx : M.1 29 S = x) : mm_Cal E mX5_plannedDepth [.ref (E.1 5), .int (nI S)] M (ret1 (.int x) M) := by
  refine jr_entry RX5 (by decide +kernel) (Nat.le_of_ble_eq_true rfl) (fun g hg => ?_)
  refine jr_lv (lv' := [(0, .ref (E.1 5)), (1, .int (nI S))]) [0, 1] rfl ?_
  refine jr_iload_n hg 1 rfl rfl dX5_plannedDepth_0 ?_
  refine jr_cS1v hg lk_X5_70 (by decide) (by decide) (Nat.le_of_ble_eq_true rfl) dX5_plannedDepth_1 (c_X5_isSet hI hS) ?_
  refine jr_if_eqN (tgt := 16) hg dX5_plannedDepth_4 (by decide) (by omega) (fun h => by omega) (fun h4 => ?_)
  refine jr_aload_n hg 0 rfl rfl dX5_plannedDepth_7 ?_
  refine gf_X5_24 hg (hI 5 (by decide)) dX5_plannedDepth_8 ?_
  refine jr_iload_n hg 1 rfl rfl dX5_plannedDepth_11 ?_
  refine jr_ialdN hg (n := 256) (by omega) (by decide) (hI 29 (by decide)) (ac_29 _ _) dX5_plannedDepth_12 ?_
  refine jr_top (hx) ?_
  refine jr_goto (tgt := 17) hg dX5_plannedDepth_13 (by decide) ?_
  exact jr_iret hg rfl dX5_plannedDepth_17 (⟨rfl, rfl⟩)

set_option maxRecDepth 100000 in
theorem c_X5_yesSetOf {E : mm_E} (hI : mm_FX E) {M : mm_M} {s : zS} (hR : zX_q0 s M) (hW : zW_q s) {k : Nat} (hk : k < 6) : mm_Cal E mX5_yesSetOf [.ref (E.1 5), .int (nI k)] M (ret1 (.int (nI (s 16 k))) M) := by
  have hn2 := hW.1
  have hn8 := hW.2.1
  refine jr_entry RX5 (by decide +kernel) (Nat.le_of_ble_eq_true rfl) (fun g hg => ?_)
  refine jr_lv (lv' := [(0, .ref (E.1 5)), (1, .int (nI k))]) [0, 1] rfl ?_
  refine jr_iload_n hg 1 rfl rfl dX5_yesSetOf_0 ?_
  refine jr_if_ltN hg dX5_yesSetOf_1 (tgt := 22) (by decide) (by omega) ?_
  refine jr_iload_n hg 1 rfl rfl dX5_yesSetOf_4 ?_
  refine jr_aload_n hg 0 rfl rfl dX5_yesSetOf_5 ?_
  refine gf_X5_15 hg (hI 5 (by decide)) dX5_yesSetOf_6 ?_
  refine jr_alen hg (t0 := 0) (hI 26 (by decide)) (ac_26 _ _) rfl rfl dX5_yesSetOf_9 ?_
  refine jr_icmp_geN (tgt := 22) hg dX5_yesSetOf_10 (by decide) (by omega) (by omega) (fun h => by omega) (fun h10 => ?_)
  refine jr_aload_n hg 0 rfl rfl dX5_yesSetOf_13 ?_
  refine gf_X5_15 hg (hI 5 (by decide)) dX5_yesSetOf_14 ?_
  refine jr_iload_n hg 1 rfl rfl dX5_yesSetOf_17 ?_
  refine jr_ialdN hg (n := 6) (by omega) (by decide) (hI 26 (by decide)) (ac_26 _ _) dX5_yesSetOf_18 ?_
  refine jr_top (hR.2.2 _ (by omega)) ?_
  refine jr_goto (tgt := 23) hg dX5_yesSetOf_19 (by decide) ?_
  exact jr_iret hg rfl dX5_yesSetOf_23 (⟨rfl, rfl⟩)

set_option maxRecDepth 100000 in
theorem c_X5_weightOf {E : mm_E} (hI : mm_FX E) {M : mm_M} {s : zS} (hR : zX_q0 s M) (hW : zW_q s) {S : Nat} (hS : S < 256) : mm_Cal E mX5_weightOf [.ref (E.1 5), .int (nI S)] M (ret1 (.int (nI (z_ws (s 15) S 8))) M) := by
  have hn2 := hW.1
  have hn8 := hW.2.1
  refine jr_entry RX5 (by decide +kernel) (Nat.le_of_ble_eq_true rfl) (fun g hg => ?_)
  refine jr_lv (lv' := [(0, .ref (E.1 5)), (1, .int (nI S))]) [0, 1] rfl ?_
  refine jr_iconst hg (nI 0) dX5_weightOf_0 (by decide) ?_
  refine jr_istore_n hg dX5_weightOf_1 rfl (by decide) rfl ?_
  refine jr_iconst hg (nI 0) dX5_weightOf_2 (by decide) ?_
  refine jr_istore_n hg dX5_weightOf_3 rfl (by decide) rfl ?_
  have lp4 : ∀ t : Nat, t ≤ 8 →  mm_J g E mX5_weightOf (ret1 (.int (nI (z_ws (s 15) S 8))) M) 4 [(0, .ref (E.1 5)), (1, .int (nI S)), (2, .int (nI (z_ws (s 15) S t))), (3, .int (nI t))] [] (M) := by
    refine jr_up (S := fun t =>  mm_J g E mX5_weightOf (ret1 (.int (nI (z_ws (s 15) S 8))) M) 4 [(0, .ref (E.1 5)), (1, .int (nI S)), (2, .int (nI (z_ws (s 15) S t))), (3, .int (nI t))] [] (M)) (n := 8) ?_ ?_
    · show mm_J g E mX5_weightOf (ret1 (.int (nI (z_ws (s 15) S 8))) M) 4 [(0, .ref (E.1 5)), (1, .int (nI S)), (2, .int (nI (z_ws (s 15) S (8)))), (3, .int (nI (8)))] [] (M)
      refine jr_iload_n hg 3 rfl rfl dX5_weightOf_4 ?_
      refine jr_aload_n hg 0 rfl rfl dX5_weightOf_5 ?_
      refine gf_X5_11 hg (hI 5 (by decide)) dX5_weightOf_6 ?_
      refine jr_alen hg (t0 := 0) (hI 25 (by decide)) (ac_25 _ _) rfl rfl dX5_weightOf_9 ?_
      refine jr_icmp_geN (tgt := 40) hg dX5_weightOf_10 (by decide) (by omega) (by omega) (fun h10 => ?_) (fun h => by omega)
      refine jr_iload_n hg 2 rfl rfl dX5_weightOf_40 ?_
      exact jr_iret hg rfl dX5_weightOf_41 (⟨rfl, rfl⟩)
    · intro t ht ih 
      show mm_J g E mX5_weightOf (ret1 (.int (nI (z_ws (s 15) S 8))) M) 4 [(0, .ref (E.1 5)), (1, .int (nI S)), (2, .int (nI (z_ws (s 15) S t))), (3, .int (nI t))] [] (M)
      refine jr_iload_n hg 3 rfl rfl dX5_weightOf_4 ?_
      refine jr_aload_n hg 0 rfl rfl dX5_weightOf_5 ?_
      refine gf_X5_11 hg (hI 5 (by decide)) dX5_weightOf_6 ?_
      refine jr_alen hg (t0 := 0) (hI 25 (by decide)) (ac_25 _ _) rfl rfl dX5_weightOf_9 ?_
      refine jr_icmp_geN (tgt := 40) hg dX5_weightOf_10 (by decide) (by omega) (by omega) (fun h => by omega) (fun h10 => ?_)
      refine jr_iload_n hg 2 rfl rfl dX5_weightOf_13 ?_
      refine jr_iload_n hg 1 rfl rfl dX5_weightOf_14 ?_
      refine jr_iload_n hg 3 rfl rfl dX5_weightOf_15 ?_
      refine cn_X5_62 hg (by decide) (Nat.le_of_ble_eq_true rfl) dX5_weightOf_16 (c_X7_isIn hI (by omega) (by omega)) ?_
      refine jr_if_eqZ (tgt := 31) hg dX5_weightOf_19 (by decide) (fun h19 => ?_) (fun h19 => ?_)
      · refine jr_iconst hg (nI 0) dX5_weightOf_31 (by decide) ?_
        refine jr_iaddN hg dX5_weightOf_32 ?_
        refine jr_istore_n hg dX5_weightOf_33 rfl (by decide) rfl ?_
        refine jr_iinc hg 3 rfl (nI (_ + 1)) (nI_1 _) dX5_weightOf_34 (by decide) rfl ?_
        refine jr_goto (tgt := 4) hg dX5_weightOf_37 (by decide) ?_
        have e : z_ws (s 15) S (t + 1) = z_ws (s 15) S t + 0 := by rw [z_ws, if_neg (by rw [h19]; decide)]
        rw [e] at ih
        exact jr_lv [2, 3, 1, 0] rfl ih
      · refine jr_aload_n hg 0 rfl rfl dX5_weightOf_22 ?_
        refine gf_X5_11 hg (hI 5 (by decide)) dX5_weightOf_23 ?_
        refine jr_iload_n hg 3 rfl rfl dX5_weightOf_26 ?_
        refine jr_ialdN hg (n := 8) (by omega) (by decide) (hI 25 (by decide)) (ac_25 _ _) dX5_weightOf_27 ?_
        refine jr_top (hR.2.1 _ (by omega)) ?_
        refine jr_goto (tgt := 32) hg dX5_weightOf_28 (by decide) ?_
        refine jr_iaddN hg dX5_weightOf_32 ?_
        refine jr_istore_n hg dX5_weightOf_33 rfl (by decide) rfl ?_
        refine jr_iinc hg 3 rfl (nI (_ + 1)) (nI_1 _) dX5_weightOf_34 (by decide) rfl ?_
        refine jr_goto (tgt := 4) hg dX5_weightOf_37 (by decide) ?_
        have e : z_ws (s 15) S (t + 1) = z_ws (s 15) S t + s 15 t := by rw [z_ws, if_pos h19]
        rw [e] at ih
        exact jr_lv [2, 3, 1, 0] rfl ih
  exact jr_lv [2, 3, 1, 0] rfl (lp4 0 (by omega))

set_option maxRecDepth 100000 in
theorem c_X5_sideOf {E : mm_E} (hI : mm_FX E) {M : mm_M} {s : zS} (hR : zX_q0 s M) (hW : zW_q s) {S k t : Nat} (hS : S < 256) (hk : k < 6) (ht : t < 32) : mm_Cal E mX5_sideOf [.ref (E.1 5), .int (nI S), .int (nI k), .int (nI t)] M (ret1 (.int (nI (z_si (s 16) S k t))) M) := by
  have hn2 := hW.1
  have hn8 := hW.2.1
  have hq := zW_q256 hW k hk
  refine jr_entry RX5 (by decide +kernel) (Nat.le_of_ble_eq_true rfl) (fun g hg => ?_)
  refine jr_lv (lv' := [(0, .ref (E.1 5)), (1, .int (nI S)), (2, .int (nI k)), (3, .int (nI t))]) [0, 1, 2, 3] rfl ?_
  refine jr_aload_n hg 0 rfl rfl dX5_sideOf_0 ?_
  refine jr_iload_n hg 2 rfl rfl dX5_sideOf_1 ?_
  refine jr_cV1v hg lk_X5_59 (hI 5 (by decide)) rfl rfl (by decide) (by decide) (Nat.le_of_ble_eq_true rfl) dX5_sideOf_2 (c_X5_yesSetOf hI hR hW hk) ?_
  refine jr_iload_n hg 3 rfl rfl dX5_sideOf_5 ?_
  refine cn_X5_62 hg (by decide) (Nat.le_of_ble_eq_true rfl) dX5_sideOf_6 (c_X7_isIn hI (by omega) ht) ?_
  refine jr_if_eqZ (tgt := 22) hg dX5_sideOf_9 (by decide) (fun h9 => ?_) (fun h9 => ?_)
  · refine jr_iload_n hg 1 rfl rfl dX5_sideOf_22 ?_
    refine jr_aload_n hg 0 rfl rfl dX5_sideOf_23 ?_
    refine jr_iload_n hg 2 rfl rfl dX5_sideOf_24 ?_
    refine jr_cV1v hg lk_X5_59 (hI 5 (by decide)) rfl rfl (by decide) (by decide) (Nat.le_of_ble_eq_true rfl) dX5_sideOf_25 (c_X5_yesSetOf hI hR hW hk) ?_
    refine jr_iconst hg (-1) dX5_sideOf_28 (by decide) ?_
    refine jr_ixor hg dX5_sideOf_29 ?_
    refine jr_iand hg dX5_sideOf_30 ?_
    refine jr_top (nI_xm1 hq hS) ?_
    exact jr_iret hg rfl dX5_sideOf_31 (⟨by rw [z_si, if_neg (by rw [h9]; decide)], rfl⟩)
  · refine jr_iload_n hg 1 rfl rfl dX5_sideOf_12 ?_
    refine jr_aload_n hg 0 rfl rfl dX5_sideOf_13 ?_
    refine jr_iload_n hg 2 rfl rfl dX5_sideOf_14 ?_
    refine jr_cV1v hg lk_X5_59 (hI 5 (by decide)) rfl rfl (by decide) (by decide) (Nat.le_of_ble_eq_true rfl) dX5_sideOf_15 (c_X5_yesSetOf hI hR hW hk) ?_
    refine jr_iand hg dX5_sideOf_18 ?_
    refine jr_top (nI_and _ _) ?_
    refine jr_goto (tgt := 31) hg dX5_sideOf_19 (by decide) ?_
    exact jr_iret hg rfl dX5_sideOf_31 (⟨by rw [z_si, if_pos h9], rfl⟩)

set_option maxRecDepth 100000 in
theorem c_X5_deeperSide {E : mm_E} (hI : mm_FX E) {M : mm_M} {S Y a b : Nat} (hS : S < 256) (hY : Y < 256) (ha : a < 2 ^ 31) (hb : b < 2 ^ 31) (h1 : M.1 29 (S &&& Y) = nI a) (h2 : M.1 29 (z_no S Y) = nI b) : mm_Cal E mX5_deeperSide [.ref (E.1 5), .int (nI S), .int (nI Y)] M (ret1 (.int (nI (max a b))) M) := by
  refine jr_entry RX5 (by decide +kernel) (Nat.le_of_ble_eq_true rfl) (fun g hg => ?_)
  refine jr_lv (lv' := [(0, .ref (E.1 5)), (1, .int (nI S)), (2, .int (nI Y))]) [0, 1, 2] rfl ?_
  refine jr_aload_n hg 0 rfl rfl dX5_deeperSide_0 ?_
  refine jr_iload_n hg 1 rfl rfl dX5_deeperSide_1 ?_
  refine jr_iload_n hg 2 rfl rfl dX5_deeperSide_2 ?_
  refine jr_iand hg dX5_deeperSide_3 ?_
  refine jr_top (nI_and _ _) ?_
  refine jr_cV1v hg lk_X5_52 (hI 5 (by decide)) rfl rfl (by decide) (by decide) (Nat.le_of_ble_eq_true rfl) dX5_deeperSide_4 (c_X5_plannedDepth hI (Nat.lt_of_le_of_lt Nat.and_le_left hS) h1) ?_
  refine jr_aload_n hg 0 rfl rfl dX5_deeperSide_7 ?_
  refine jr_iload_n hg 1 rfl rfl dX5_deeperSide_8 ?_
  refine jr_iload_n hg 2 rfl rfl dX5_deeperSide_9 ?_
  refine jr_iconst hg (-1) dX5_deeperSide_10 (by decide) ?_
  refine jr_ixor hg dX5_deeperSide_11 ?_
  refine jr_iand hg dX5_deeperSide_12 ?_
  refine jr_top (nI_xm1 hY hS) ?_
  refine jr_cV1v hg lk_X5_52 (hI 5 (by decide)) rfl rfl (by decide) (by decide) (Nat.le_of_ble_eq_true rfl) dX5_deeperSide_13 (c_X5_plannedDepth hI (Nat.lt_of_le_of_lt (z_no_le _ _) hS) h2) ?_
  refine jr_max hg wm_45_3 (by decide) (Nat.le_of_ble_eq_true rfl) dX5_deeperSide_16 wm_20_11 wm_20_12 wm_20_13 ?_
  refine jr_top (zmaxI ha hb) ?_
  exact jr_iret hg rfl dX5_deeperSide_19 (⟨rfl, rfl⟩)

theorem zX_pl_s {s : zS} {S : Nat} {M : mm_M} {a c : Int32} {b : Nat} (hP : zX_pl s S M) (ha : a = nI (z_e (s 15) (s 16) S).1) (hb : b = (z_e (s 15) (s 16) S).2.1) (hc : c = nI (z_e (s 15) (s 16) S).2.2) : zX_pl s (S + 1) (mm_si (mm_si (mm_si M 28 (upd (M.1 28) S (zmv b))) 27 (upd (M.1 27) S a)) 29 (upd (M.1 29) S c)) := by
  intro T h1 h2
  show upd (M.1 27) S a T = _ ∧ upd (M.1 28) S (zmv b) T = _ ∧ upd (M.1 29) S c T = _
  by_cases e : T = S
  · rw [e, upd_s, upd_s, upd_s, ha, hb, hc]; exact ⟨rfl, rfl, rfl⟩
  · rw [upd_n e, upd_n e, upd_n e]; exact hP T h1 (by omega)

set_option maxRecDepth 100000 in
theorem c_X5_planSet {E : mm_E} (hI : mm_FX E) {M : mm_M} {s : zS} (hR : zX_q0 s M) (hW : zW_q s) {S : Nat} (h1 : 1 ≤ S) (hS : S < 256) (hP : zX_pl s S M) : mm_Cal E mX5_planSet [.ref (E.1 5), .int (nI S)] M (fun v M' => v = none ∧ zX_q0 s M' ∧ zX_pl s (S + 1) M' ∧ M'.1 5 = M.1 5 ∧ mm_same [27, 28, 29] M M') := by
  have hn2 := hW.1
  have hn8 := hW.2.1
  have hq := zW_q256 hW
  have hw : ∀ t, t < 8 → s 15 t ≤ 99 := fun t ht => (hW.2.2.1 t ht).2
  refine jr_entry RX5 (by decide +kernel) (Nat.le_of_ble_eq_true rfl) (fun g hg => ?_)
  refine jr_lv (lv' := [(0, .ref (E.1 5)), (1, .int (nI S))]) [0, 1] rfl ?_
  refine jr_iconst hg (-1) dX5_planSet_0 (by decide) ?_
  refine jr_istore_n hg dX5_planSet_1 rfl (by decide) rfl ?_
  refine jr_iconst hg (nI 0) dX5_planSet_2 (by decide) ?_
  refine jr_istore_n hg dX5_planSet_3 rfl (by decide) rfl ?_
  refine jr_iconst hg (nI 0) dX5_planSet_4 (by decide) ?_
  refine jr_istore hg dX5_planSet_5 (by decide) rfl ?_
  have lp7 : ∀ k : Nat, k ≤ 6 →  mm_J g E mX5_planSet (fun v M' => v = none ∧ zX_q0 s M' ∧ zX_pl s (S + 1) M' ∧ M'.1 5 = M.1 5 ∧ mm_same [27, 28, 29] M M') 7 [(0, .ref (E.1 5)), (1, .int (nI S)), (2, .int (zmv (z_be (s 16) (z_ak (s 15) (s 16)) S k).1)), (3, .int (nI ((z_be (s 16) (z_ak (s 15) (s 16)) S k).2))), (4, .int (nI k))] [] (M) := by
    refine jr_up (S := fun k =>  mm_J g E mX5_planSet (fun v M' => v = none ∧ zX_q0 s M' ∧ zX_pl s (S + 1) M' ∧ M'.1 5 = M.1 5 ∧ mm_same [27, 28, 29] M M') 7 [(0, .ref (E.1 5)), (1, .int (nI S)), (2, .int (zmv (z_be (s 16) (z_ak (s 15) (s 16)) S k).1)), (3, .int (nI ((z_be (s 16) (z_ak (s 15) (s 16)) S k).2))), (4, .int (nI k))] [] (M)) (n := 6) ?_ ?_
    · show mm_J g E mX5_planSet (fun v M' => v = none ∧ zX_q0 s M' ∧ zX_pl s (S + 1) M' ∧ M'.1 5 = M.1 5 ∧ mm_same [27, 28, 29] M M') 7 [(0, .ref (E.1 5)), (1, .int (nI S)), (2, .int (zmv (z_be (s 16) (z_ak (s 15) (s 16)) S (6)).1)), (3, .int (nI ((z_be (s 16) (z_ak (s 15) (s 16)) S (6)).2))), (4, .int (nI (6)))] [] (M)
      refine jr_iload hg 4 rfl dX5_planSet_7 ?_
      refine jr_bipush hg (nI 6) dX5_planSet_9 (by decide) ?_
      refine jr_icmp_geN (tgt := 84) hg dX5_planSet_11 (by decide) (by omega) (by omega) (fun h11 => ?_) (fun h => by omega)
      have hbl := z_be_le hw hq hS 6 (Nat.le_refl _)
      have hsp := @z_be_spec (s 16) (z_ak (s 15) (s 16)) S 6
      have hee := z_e_eq (w := s 15) hS hq
      have hwl := z_ws_le hw S 8 (Nat.le_refl _)
      generalize z_be (s 16) (z_ak (s 15) (s 16)) S 6 = B at hbl hsp hee ⊢
      obtain ⟨b, c⟩ := B
      rcases b with _ | b
      · have hee : z_e (s 15) (s 16) S = (0, 0, 0) := hee
        show mm_J g E mX5_planSet (fun v M' => v = none ∧ zX_q0 s M' ∧ zX_pl s (S + 1) M' ∧ M'.1 5 = M.1 5 ∧ mm_same [27, 28, 29] M M') 84 [(0, .ref (E.1 5)), (1, .int (nI S)), (2, .int (-1)), (3, .int (nI c)), (4, .int (nI 6))] [] M
        refine jr_iload_n hg 1 rfl rfl dX5_planSet_84 ?_
        refine jr_cS1v hg lk_X5_70 (by decide) (by decide) (Nat.le_of_ble_eq_true rfl) dX5_planSet_85 (c_X5_isSet hI hS) ?_
        refine jr_if_eqN (tgt := 147) hg dX5_planSet_88 (by decide) (by omega) (fun h => by omega) (fun h88 => ?_)
        refine jr_aload_n hg 0 rfl rfl dX5_planSet_91 ?_
        refine gf_X5_21 hg (hI 5 (by decide)) dX5_planSet_92 ?_
        refine jr_iload_n hg 1 rfl rfl dX5_planSet_95 ?_
        refine jr_iload_n hg 2 rfl rfl dX5_planSet_96 ?_
        refine jr_iastN hg (n := 256) (by omega) (by decide) (hI 28 (by decide)) (ac_28) dX5_planSet_97 ?_
        refine jr_aload_n hg 0 rfl rfl dX5_planSet_98 ?_
        refine gf_X5_18 hg (hI 5 (by decide)) dX5_planSet_99 ?_
        refine jr_iload_n hg 1 rfl rfl dX5_planSet_102 ?_
        refine jr_iload_n hg 2 rfl rfl dX5_planSet_103 ?_
        refine jr_iconst hg (-1) dX5_planSet_104 (by decide) ?_
        refine jr_icmp_ne (tgt := 112) hg dX5_planSet_105 (by decide) (fun h => absurd rfl h) (fun h105 => ?_)
        refine jr_iconst hg (nI 0) dX5_planSet_108 (by decide) ?_
        refine jr_goto (tgt := 119) hg dX5_planSet_109 (by decide) ?_
        refine jr_iastN hg (n := 256) (by omega) (by decide) (hI 27 (by decide)) (ac_27) dX5_planSet_119 ?_
        refine jr_aload_n hg 0 rfl rfl dX5_planSet_120 ?_
        refine gf_X5_24 hg (hI 5 (by decide)) dX5_planSet_121 ?_
        refine jr_iload_n hg 1 rfl rfl dX5_planSet_124 ?_
        refine jr_iload_n hg 2 rfl rfl dX5_planSet_125 ?_
        refine jr_iconst hg (-1) dX5_planSet_126 (by decide) ?_
        refine jr_icmp_ne (tgt := 134) hg dX5_planSet_127 (by decide) (fun h => absurd rfl h) (fun h127 => ?_)
        refine jr_iconst hg (nI 0) dX5_planSet_130 (by decide) ?_
        refine jr_goto (tgt := 146) hg dX5_planSet_131 (by decide) ?_
        refine jr_iastN hg (n := 256) (by omega) (by decide) (hI 29 (by decide)) (ac_29) dX5_planSet_146 ?_
        exact jr_vret hg rfl dX5_planSet_147 (⟨rfl, hR, zX_pl_s (b := 0) hP (by rw [hee]) (by rw [hee]) (by rw [hee]), rfl, ((mm_same.rf.si (by decide)).si (by decide)).si (by decide)⟩)
      · obtain ⟨j, hj, ej, y1, y2, ec⟩ := hsp (Nat.succ_ne_zero b)
        have ej : j = b := by have := ej; simp at this; omega
        subst ej
        have ec : c = z_ak (s 15) (s 16) (S &&& s 16 j) + z_ak (s 15) (s 16) (z_no S (s 16 j)) := ec
        have hee : z_e (s 15) (s 16) S = (z_ws (s 15) S 8 + c, j + 1, 1 + max (z_e (s 15) (s 16) (S &&& s 16 j)).2.2 (z_e (s 15) (s 16) (z_no S (s 16 j))).2.2) := hee
        have sp := zsplit S hS (s 16 j) (hq j hj)
        have d1 := (z_e_le hw hq (S &&& s 16 j) (by omega)).2.1
        have d2 := (z_e_le hw hq (z_no S (s 16 j)) (by omega)).2.1
        have f1 := (hP (S &&& s 16 j) (by omega) (by omega)).2.2
        have f2 := (hP (z_no S (s 16 j)) (by omega) (by omega)).2.2
        have hcb : c ≤ 204000 := hbl.1
        show mm_J g E mX5_planSet (fun v M' => v = none ∧ zX_q0 s M' ∧ zX_pl s (S + 1) M' ∧ M'.1 5 = M.1 5 ∧ mm_same [27, 28, 29] M M') 84 [(0, .ref (E.1 5)), (1, .int (nI S)), (2, .int (zmv (j + 1))), (3, .int (nI c)), (4, .int (nI 6))] [] M
        rw [zmv_s]
        refine jr_iload_n hg 1 rfl rfl dX5_planSet_84 ?_
        refine jr_cS1v hg lk_X5_70 (by decide) (by decide) (Nat.le_of_ble_eq_true rfl) dX5_planSet_85 (c_X5_isSet hI hS) ?_
        refine jr_if_eqN (tgt := 147) hg dX5_planSet_88 (by decide) (by omega) (fun h => by omega) (fun h88 => ?_)
        refine jr_aload_n hg 0 rfl rfl dX5_planSet_91 ?_
        refine gf_X5_21 hg (hI 5 (by decide)) dX5_planSet_92 ?_
        refine jr_iload_n hg 1 rfl rfl dX5_planSet_95 ?_
        refine jr_iload_n hg 2 rfl rfl dX5_planSet_96 ?_
        refine jr_iastN hg (n := 256) (by omega) (by decide) (hI 28 (by decide)) (ac_28) dX5_planSet_97 ?_
        refine jr_aload_n hg 0 rfl rfl dX5_planSet_98 ?_
        refine gf_X5_18 hg (hI 5 (by decide)) dX5_planSet_99 ?_
        refine jr_iload_n hg 1 rfl rfl dX5_planSet_102 ?_
        refine jr_iload_n hg 2 rfl rfl dX5_planSet_103 ?_
        refine jr_iconst hg (-1) dX5_planSet_104 (by decide) ?_
        refine jr_icmp_ne (tgt := 112) hg dX5_planSet_105 (by decide) (fun h105 => ?_) (fun h => absurd h (nI_ne_m1 (by omega)))
        refine jr_aload_n hg 0 rfl rfl dX5_planSet_112 ?_
        refine jr_iload_n hg 1 rfl rfl dX5_planSet_113 ?_
        refine jr_cV1v hg lk_X5_73 (hI 5 (by decide)) rfl rfl (by decide) (by decide) (Nat.le_of_ble_eq_true rfl) dX5_planSet_114 (c_X5_weightOf (M := mm_si M 28 (upd (M.1 28) S (nI j))) hI hR hW hS) ?_
        refine jr_iload_n hg 3 rfl rfl dX5_planSet_117 ?_
        refine jr_iaddN hg dX5_planSet_118 ?_
        refine jr_iastN hg (n := 256) (by omega) (by decide) (hI 27 (by decide)) (ac_27) dX5_planSet_119 ?_
        refine jr_aload_n hg 0 rfl rfl dX5_planSet_120 ?_
        refine gf_X5_24 hg (hI 5 (by decide)) dX5_planSet_121 ?_
        refine jr_iload_n hg 1 rfl rfl dX5_planSet_124 ?_
        refine jr_iload_n hg 2 rfl rfl dX5_planSet_125 ?_
        refine jr_iconst hg (-1) dX5_planSet_126 (by decide) ?_
        refine jr_icmp_ne (tgt := 134) hg dX5_planSet_127 (by decide) (fun h127 => ?_) (fun h => absurd h (nI_ne_m1 (by omega)))
        refine jr_iconst hg (nI 1) dX5_planSet_134 (by decide) ?_
        refine jr_aload_n hg 0 rfl rfl dX5_planSet_135 ?_
        refine jr_iload_n hg 1 rfl rfl dX5_planSet_136 ?_
        refine jr_aload_n hg 0 rfl rfl dX5_planSet_137 ?_
        refine jr_iload_n hg 2 rfl rfl dX5_planSet_138 ?_
        refine jr_cV1v hg lk_X5_59 (hI 5 (by decide)) rfl rfl (by decide) (by decide) (Nat.le_of_ble_eq_true rfl) dX5_planSet_139 (c_X5_yesSetOf (M := (mm_si (mm_si M 28 (upd (M.1 28) S (nI j))) 27 (upd (M.1 27) S (nI (z_ws (s 15) S 8 + c))))) hI hR hW hj) ?_
        refine jr_cV2v hg lk_X5_76 (hI 5 (by decide)) rfl rfl (by decide) (by decide) (Nat.le_of_ble_eq_true rfl) dX5_planSet_142 (c_X5_deeperSide (M := (mm_si (mm_si M 28 (upd (M.1 28) S (nI j))) 27 (upd (M.1 27) S (nI (z_ws (s 15) S 8 + c))))) hI hS (hq j hj) (by omega) (by omega) f1 f2) ?_
        refine jr_iaddN hg dX5_planSet_145 ?_
        refine jr_iastN hg (n := 256) (by omega) (by decide) (hI 29 (by decide)) (ac_29) dX5_planSet_146 ?_
        exact jr_vret hg rfl dX5_planSet_147 (⟨rfl, hR, by rw [← zmv_s]; exact zX_pl_s hP (by rw [hee]) (by rw [hee]) (by rw [hee]), rfl, ((mm_same.rf.si (by decide)).si (by decide)).si (by decide)⟩)
    · intro k hk ih 
      show mm_J g E mX5_planSet (fun v M' => v = none ∧ zX_q0 s M' ∧ zX_pl s (S + 1) M' ∧ M'.1 5 = M.1 5 ∧ mm_same [27, 28, 29] M M') 7 [(0, .ref (E.1 5)), (1, .int (nI S)), (2, .int (zmv (z_be (s 16) (z_ak (s 15) (s 16)) S k).1)), (3, .int (nI ((z_be (s 16) (z_ak (s 15) (s 16)) S k).2))), (4, .int (nI k))] [] (M)
      have hbk := z_be_le hw hq hS k (by omega)
      have sp := zsplit S hS (s 16 k) (hq k (by omega))
      refine jr_iload hg 4 rfl dX5_planSet_7 ?_
      refine jr_bipush hg (nI 6) dX5_planSet_9 (by decide) ?_
      refine jr_icmp_geN (tgt := 84) hg dX5_planSet_11 (by decide) (by omega) (by omega) (fun h => by omega) (fun h11 => ?_)
      refine jr_iload_n hg 1 rfl rfl dX5_planSet_14 ?_
      refine jr_aload_n hg 0 rfl rfl dX5_planSet_15 ?_
      refine jr_iload hg 4 rfl dX5_planSet_16 ?_
      refine jr_cV1v hg lk_X5_59 (hI 5 (by decide)) rfl rfl (by decide) (by decide) (Nat.le_of_ble_eq_true rfl) dX5_planSet_18 (c_X5_yesSetOf hI hR hW (by omega)) ?_
      refine jr_iand hg dX5_planSet_21 ?_
      refine jr_top (nI_and _ _) ?_
      refine jr_istore hg dX5_planSet_22 (by decide) rfl ?_
      refine jr_iload_n hg 2 rfl rfl dX5_planSet_24 ?_
      refine jr_aload_n hg 1 rfl rfl dX5_planSet_25 ?_
      refine jr_iload hg 5 rfl dX5_planSet_26 ?_
      refine jr_cV1v hg lk_X5_59 (hI 5 (by decide)) rfl rfl (by decide) (by decide) (Nat.le_of_ble_eq_true rfl) dX5_planSet_28 (c_X5_yesSetOf hI hR hW (by omega)) ?_
      refine jr_iconst hg (-1) dX5_planSet_31 (by decide) ?_
      refine jr_ixor hg dX5_planSet_32 ?_
      refine jr_iand hg dX5_planSet_33 ?_
      refine jr_top (nI_xm1 (hq k (by omega)) hS) ?_
      refine jr_istore hg dX5_planSet_34 (by decide) rfl ?_
      refine jr_iload hg 1 rfl dX5_planSet_36 ?_
      refine jr_if_eqN (tgt := 78) hg dX5_planSet_38 (by decide) (by omega) (fun h38 => ?_) (fun h38 => ?_)
      · refine jr_iinc hg 6 rfl (nI (_ + 1)) (nI_1 _) dX5_planSet_78 (by decide) rfl ?_
        refine jr_goto (tgt := 7) hg dX5_planSet_81 (by decide) ?_
        have e : z_be (s 16) (z_ak (s 15) (s 16)) S (k + 1) = z_be (s 16) (z_ak (s 15) (s 16)) S k := by rw [z_be, if_neg (fun z => z.1.1 h38)]
        rw [e] at ih
        exact jr_lv [3, 4, 5, 6, 0] rfl ih
      · refine jr_iload hg 0 rfl dX5_planSet_41 ?_
        refine jr_if_eqN (tgt := 78) hg dX5_planSet_43 (by decide) (by omega) (fun h43 => ?_) (fun h43 => ?_)
        · refine jr_iinc hg 6 rfl (nI (_ + 1)) (nI_1 _) dX5_planSet_78 (by decide) rfl ?_
          refine jr_goto (tgt := 7) hg dX5_planSet_81 (by decide) ?_
          have e : z_be (s 16) (z_ak (s 15) (s 16)) S (k + 1) = z_be (s 16) (z_ak (s 15) (s 16)) S k := by rw [z_be, if_neg (fun z => z.1.2 h43)]
          rw [e] at ih
          exact jr_lv [3, 4, 5, 6, 0] rfl ih
        · have a1 := hP (S &&& s 16 k) (by omega) (by omega)
          have a2 := hP (z_no S (s 16 k)) (by omega) (by omega)
          have b1 := (z_e_le hw hq (S &&& s 16 k) (by omega)).1
          have b2 := (z_e_le hw hq (z_no S (s 16 k)) (by omega)).1
          have c1 : z_ak (s 15) (s 16) (S &&& s 16 k) = (z_e (s 15) (s 16) (S &&& s 16 k)).1 := rfl
          have c2 : z_ak (s 15) (s 16) (z_no S (s 16 k)) = (z_e (s 15) (s 16) (z_no S (s 16 k))).1 := rfl
          refine jr_aload_n hg 2 rfl rfl dX5_planSet_46 ?_
          refine jr_iload hg 1 rfl dX5_planSet_47 ?_
          refine jr_cV1v hg lk_X5_46 (hI 5 (by decide)) rfl rfl (by decide) (by decide) (Nat.le_of_ble_eq_true rfl) dX5_planSet_49 (c_X5_plannedAsks hI (by omega) a1.1) ?_
          refine jr_aload_n hg 2 rfl rfl dX5_planSet_52 ?_
          refine jr_iload hg 0 rfl dX5_planSet_53 ?_
          refine jr_cV1v hg lk_X5_46 (hI 5 (by decide)) rfl rfl (by decide) (by decide) (Nat.le_of_ble_eq_true rfl) dX5_planSet_55 (c_X5_plannedAsks hI (by omega) a2.1) ?_
          refine jr_iaddN hg dX5_planSet_58 ?_
          refine jr_istore hg dX5_planSet_59 (by decide) rfl ?_
          refine jr_iload_n hg 5 rfl rfl dX5_planSet_61 ?_
          refine jr_iconst hg (-1) dX5_planSet_62 (by decide) ?_
          refine jr_icmp_eq (tgt := 72) hg dX5_planSet_63 (by decide) (fun h63 => ?_) (fun h63 => ?_)
          · have hb0 : (z_be (s 16) (z_ak (s 15) (s 16)) S k).1 = 0 := (zmv_m1 (by omega)).mp h63
            refine jr_iload hg 7 rfl dX5_planSet_72 ?_
            refine jr_istore_n hg dX5_planSet_74 rfl (by decide) rfl ?_
            refine jr_iload hg 1 rfl dX5_planSet_75 ?_
            refine jr_istore_n hg dX5_planSet_77 rfl (by decide) rfl ?_
            refine jr_iinc hg 7 rfl (nI (_ + 1)) (nI_1 _) dX5_planSet_78 (by decide) rfl ?_
            refine jr_goto (tgt := 7) hg dX5_planSet_81 (by decide) ?_
            have e : z_be (s 16) (z_ak (s 15) (s 16)) S (k + 1) = (k + 1, z_ak (s 15) (s 16) (S &&& s 16 k) + z_ak (s 15) (s 16) (z_no S (s 16 k))) := by rw [z_be, if_pos ⟨⟨by omega, by omega⟩, Or.inl hb0⟩]
            rw [e] at ih
            rw [show zmv (k + 1, z_ak (s 15) (s 16) (S &&& s 16 k) + z_ak (s 15) (s 16) (z_no S (s 16 k))).1 = nI k from zmv_s k] at ih
            exact jr_lv [6, 7, 2, 1, 0] rfl ih
          · have hb0 : (z_be (s 16) (z_ak (s 15) (s 16)) S k).1 ≠ 0 := fun z => h63 ((zmv_m1 (by omega)).mpr z)
            refine jr_iload hg 0 rfl dX5_planSet_66 ?_
            refine jr_iload_n hg 6 rfl rfl dX5_planSet_68 ?_
            refine jr_icmp_geN (tgt := 78) hg dX5_planSet_69 (by decide) (by omega) (by omega) (fun h69 => ?_) (fun h69 => ?_)
            · refine jr_iinc hg 7 rfl (nI (_ + 1)) (nI_1 _) dX5_planSet_78 (by decide) rfl ?_
              refine jr_goto (tgt := 7) hg dX5_planSet_81 (by decide) ?_
              have e : z_be (s 16) (z_ak (s 15) (s 16)) S (k + 1) = z_be (s 16) (z_ak (s 15) (s 16)) S k := by rw [z_be, if_neg (fun z => by rcases z.2 with z | z; exact hb0 z; omega)]
              rw [e] at ih
              exact jr_lv [4, 5, 6, 7, 0] rfl ih
            · refine jr_iload hg 7 rfl dX5_planSet_72 ?_
              refine jr_istore_n hg dX5_planSet_74 rfl (by decide) rfl ?_
              refine jr_iload hg 1 rfl dX5_planSet_75 ?_
              refine jr_istore_n hg dX5_planSet_77 rfl (by decide) rfl ?_
              refine jr_iinc hg 7 rfl (nI (_ + 1)) (nI_1 _) dX5_planSet_78 (by decide) rfl ?_
              refine jr_goto (tgt := 7) hg dX5_planSet_81 (by decide) ?_
              have e : z_be (s 16) (z_ak (s 15) (s 16)) S (k + 1) = (k + 1, z_ak (s 15) (s 16) (S &&& s 16 k) + z_ak (s 15) (s 16) (z_no S (s 16 k))) := by rw [z_be, if_pos ⟨⟨by omega, by omega⟩, Or.inr h69⟩]
              rw [e] at ih
              rw [show zmv (k + 1, z_ak (s 15) (s 16) (S &&& s 16 k) + z_ak (s 15) (s 16) (z_no S (s 16 k))).1 = nI k from zmv_s k] at ih
              exact jr_lv [6, 7, 2, 1, 0] rfl ih
  exact jr_lv [3, 4, 2, 1, 0] rfl (lp7 0 (by omega))
