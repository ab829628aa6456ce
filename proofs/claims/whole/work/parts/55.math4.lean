/-! pairs of mirrors, one by one -/
def z_pak (s : zS) (l p : Nat) : Nat := zcnt (z_mp s l 1 1) p + zcnt (z_mp s l 2 2) p + zcnt (z_mp s l 1 2) p + zcnt (z_mp s l 2 1) p
def z_off (s : zS) (l p : Nat) : Int32 := nI (zcnt (z_mp s l 1 1) p) - nI (zcnt (z_mp s l 2 2) p)
theorem z_pak_0 {s : zS} {l p : Nat} (h : ∀ a b, z_mp s l (a + 1) (b + 1) p = true → 2 ≤ a ∨ 2 ≤ b) : z_pak s l (p + 1) = z_pak s l p ∧ z_off s l (p + 1) = z_off s l p := by
  have e : ∀ a b, a < 2 → b < 2 → z_mp s l (a + 1) (b + 1) p = false := by
    intro a b ha hb
    cases q : z_mp s l (a + 1) (b + 1) p with
    | false => rfl
    | true => have := h a b q; omega
  have e11 := e 0 0 (by decide) (by decide)
  have e22 := e 1 1 (by decide) (by decide)
  have e12 := e 0 1 (by decide) (by decide)
  have e21 := e 1 0 (by decide) (by decide)
  rw [z_pak, z_off, zcnt_s, zcnt_s, zcnt_s, zcnt_s, e11, e22, e12, e21]
  exact ⟨rfl, rfl⟩
theorem zoff_up {a b : Nat} (ha : a < 2 ^ 20) (hb : b < 2 ^ 20) : nI (a + 1) - nI b = nI a - nI b + nI 1 := by
  apply Int32.toInt_inj.mp
  rw [Int32.toInt_add, pk_sub_toInt (by omega) (by omega), pk_sub_toInt (by omega) (by omega), nI_toInt (by decide), Int.bmod_eq_of_le (by omega) (by omega)]
  omega
theorem zoff_dn {a b : Nat} (ha : a < 2 ^ 20) (hb : b < 2 ^ 20) : nI a - nI (b + 1) = nI a - nI b + (-1) := by
  apply Int32.toInt_inj.mp
  rw [Int32.toInt_add, pk_sub_toInt (by omega) (by omega), pk_sub_toInt (by omega) (by omega), show (-1 : Int32).toInt = -1 by decide, Int.bmod_eq_of_le (by omega) (by omega)]
  omega
theorem zoff_z (x : Int32) : x + nI 0 = x := by rw [show nI 0 = 0 from rfl]; simp
theorem z_pak_1 {s : zS} {l p x y : Nat} (hp : p < 2 ^ 20) (h5 : s 5 p ≠ 0) (hx : z_an s l (s 5 p - 1) = x + 1) (hy : z_an s l p = y + 1) (x1 : 1 ≤ x) (x2 : x ≤ 2) (y1 : 1 ≤ y) (y2 : y ≤ 2) : z_pak s l (p + 1) = z_pak s l p + 1 ∧ z_off s l (p + 1) = z_off s l p + (if x = y then (if x = 1 then nI 1 else -1) else nI 0) := by
  have c1 := zcnt_le (z_mp s l 1 1) p
  have c2 := zcnt_le (z_mp s l 2 2) p
  have e : ∀ a b, z_mp s l a b p = (x == a && y == b) := by
    intro a b
    rw [z_mp, hx, hy, show (s 5 p != 0) = true by simp [h5], Bool.true_and]
    have q1 : (x + 1 == a + 1) = (x == a) := by by_cases q : x = a <;> simp [q]
    have q2 : (y + 1 == b + 1) = (y == b) := by by_cases q : y = b <;> simp [q]
    rw [q1, q2]
  rw [z_pak, z_off, zcnt_s, zcnt_s, zcnt_s, zcnt_s, e, e, e, e]
  rcases (show x = 1 ∨ x = 2 by omega) with r | r <;> rcases (show y = 1 ∨ y = 2 by omega) with t | t <;> subst r <;> subst t
  · refine ⟨by show zcnt _ p + 1 + (zcnt _ p + 0) + (zcnt _ p + 0) + (zcnt _ p + 0) = z_pak s l p + 1; rw [z_pak]; omega, ?_⟩
    show nI (zcnt (z_mp s l 1 1) p + 1) - nI (zcnt (z_mp s l 2 2) p) = nI (zcnt (z_mp s l 1 1) p) - nI (zcnt (z_mp s l 2 2) p) + nI 1
    exact zoff_up (by omega) (by omega)
  · refine ⟨by show zcnt _ p + 0 + (zcnt _ p + 0) + (zcnt _ p + 1) + (zcnt _ p + 0) = z_pak s l p + 1; rw [z_pak]; omega, ?_⟩
    exact (zoff_z _).symm
  · refine ⟨by show zcnt _ p + 0 + (zcnt _ p + 0) + (zcnt _ p + 0) + (zcnt _ p + 1) = z_pak s l p + 1; rw [z_pak]; omega, ?_⟩
    exact (zoff_z _).symm
  · refine ⟨by show zcnt _ p + 0 + (zcnt _ p + 1) + (zcnt _ p + 0) + (zcnt _ p + 0) = z_pak s l p + 1; rw [z_pak]; omega, ?_⟩
    show nI (zcnt (z_mp s l 1 1) p) - nI (zcnt (z_mp s l 2 2) p + 1) = nI (zcnt (z_mp s l 1 1) p) - nI (zcnt (z_mp s l 2 2) p) + (-1)
    exact zoff_dn (by omega) (by omega)
/-! answers and the looks that gave them -/
theorem z_an_v {s : zS} {l p : Nat} (h : zfind (z_at s l p) (s 0 2) ≠ 0) : z_an s l p = s 9 (zfind (z_at s l p) (s 0 2) - 1) + 1 := by
  simp only [z_an, if_neg h]
theorem z_an_k {s : zS} (h : zW_k s) {k : Nat} (hk : k < s 0 2) : z_an s (s 7 k) (s 8 k) = s 9 k + 1 := by
  have e : zfind (z_at s (s 7 k) (s 8 k)) (s 0 2) = k + 1 := zfind_of hk (by simp [z_at]) (fun j hj => by
    cases q : z_at s (s 7 k) (s 8 k) j with
    | false => rfl
    | true =>
      simp only [z_at, Bool.and_eq_true, beq_iff_eq] at q
      have := h.2.2 j k (by omega) hk q.1 q.2
      omega)
  rw [z_an_v (by omega), e, Nat.add_sub_cancel]
theorem z_an_ex {s : zS} {l p a : Nat} (h : z_an s l p = a + 1) : ∃ k, k < s 0 2 ∧ s 7 k = l ∧ s 8 k = p ∧ s 9 k = a := by
  have h0 : zfind (z_at s l p) (s 0 2) ≠ 0 := fun q => by have := z_an_f.mpr q; omega
  have hv := z_an_v h0
  obtain ⟨j, hj⟩ : ∃ j, zfind (z_at s l p) (s 0 2) = j + 1 := ⟨zfind (z_at s l p) (s 0 2) - 1, by omega⟩
  have q := zfind_1 hj
  rw [hj, Nat.add_sub_cancel] at hv
  have q2 := q.2.1
  simp only [z_at, Bool.and_eq_true, beq_iff_eq] at q2
  exact ⟨j, q.1, q2.1, q2.2, by omega⟩
def zex (P : Nat → Bool) : Nat → Bool
  | 0 => false
  | n + 1 => zex P n || P n
theorem zex_iff {P : Nat → Bool} {n : Nat} : zex P n = true ↔ ∃ k, k < n ∧ P k = true := by
  induction n with
  | zero => exact ⟨fun h => (by cases h), fun ⟨k, h, _⟩ => by omega⟩
  | succ n ih =>
    rw [zex, Bool.or_eq_true, ih]
    constructor
    · rintro (⟨k, a, b⟩ | h)
      · exact ⟨k, by omega, b⟩
      · exact ⟨n, by omega, h⟩
    · rintro ⟨k, a, b⟩
      by_cases e : k = n
      · subst e; exact Or.inr b
      · exact Or.inl ⟨k, by omega, b⟩
/-- a machine's sure look -/
def z_sk (s : zS) (k : Nat) : Bool := decide (s 6 (s 7 k) = 4 ∧ s 9 k < 3) && z_su s (s 8 k) (s 9 k)
def z_isk (s : zS) (p : Nat) : Nat → Bool := fun k => s 8 k == p && z_sk s k
def z_bdk (s : zS) (p : Nat) : Nat → Bool := fun k => s 8 k == p && (z_sk s k && s 9 k != s 1 p)
def z_nm (s : zS) (p : Nat) : Nat → Bool := fun k => s 8 k == p && s 6 (s 7 k) != 4
theorem z_ga_iff {s : zS} (h : zW_k s) {p a : Nat} : z_ga s p a = true ↔ ∃ k, k < s 0 2 ∧ s 8 k = p ∧ s 9 k = a ∧ s 6 (s 7 k) = 4 ∧ z_su s p a = true := by
  rw [z_ga]
  constructor
  · intro q
    have q : zfind (z_gl s p a) (s 0 1) ≠ 0 := by simpa using q
    obtain ⟨j, hj⟩ : ∃ j, zfind (z_gl s p a) (s 0 1) = j + 1 := ⟨zfind (z_gl s p a) (s 0 1) - 1, by omega⟩
    have r := (zfind_1 hj).2.1
    simp only [z_gl, Bool.and_eq_true, beq_iff_eq] at r
    obtain ⟨k, a1, a2, a3, a4⟩ := z_an_ex r.2.1
    exact ⟨k, a1, a3, a4, by rw [a2]; exact r.1, r.2.2⟩
  · rintro ⟨k, a1, a2, a3, a4, a5⟩
    have hl := (h.2.1 k a1).1
    have e := z_an_k h a1
    rw [a2, a3] at e
    cases q : zfind (z_gl s p a) (s 0 1) with
    | zero =>
      have := zfind_0 q (s 7 k) hl
      rw [z_gl] at this
      simp [a4, e, a5] at this
    | succ j => rfl
theorem z_gv_ex {s : zS} (h : zW_k s) {p : Nat} : zex (z_isk s p) (s 0 2) = z_gv s p := by
  rw [Bool.eq_iff_iff, zex_iff]
  have e : z_gv s p = true ↔ ∃ a, a < 3 ∧ z_ga s p a = true := by
    rw [z_gv, Bool.or_eq_true, Bool.or_eq_true]
    constructor
    · rintro (q | q | q)
      · exact ⟨0, by decide, q⟩
      · exact ⟨1, by decide, q⟩
      · exact ⟨2, by decide, q⟩
    · rintro ⟨a, ha, q⟩
      rcases (show a = 0 ∨ a = 1 ∨ a = 2 by omega) with r | r | r <;> subst r
      · exact Or.inl q
      · exact Or.inr (Or.inl q)
      · exact Or.inr (Or.inr q)
  rw [e]
  constructor
  · rintro ⟨k, hk, q⟩
    simp only [z_isk, z_sk, Bool.and_eq_true, beq_iff_eq, decide_eq_true_eq] at q
    refine ⟨s 9 k, q.2.1.2, (z_ga_iff h).mpr ⟨k, hk, q.1, rfl, q.2.1.1, ?_⟩⟩
    rw [← q.1]; exact q.2.2
  · rintro ⟨a, ha, q⟩
    obtain ⟨k, a1, a2, a3, a4, a5⟩ := (z_ga_iff h).mp q
    refine ⟨k, a1, ?_⟩
    simp only [z_isk, z_sk, Bool.and_eq_true, beq_iff_eq, decide_eq_true_eq]
    exact ⟨a2, ⟨a4, by omega⟩, by rw [a2, a3]; exact a5⟩
theorem z_wa_iff {s : zS} {p : Nat} : ∀ n, z_wa s p n = true ↔ ∃ a, a < n ∧ a ≠ s 1 p ∧ z_ga s p a = true := by
  intro n
  induction n with
  | zero => exact ⟨fun q => (by cases q), fun ⟨a, q, _⟩ => by omega⟩
  | succ n ih =>
    rw [z_wa, Bool.or_eq_true, ih, Bool.and_eq_true, bne_iff_ne]
    constructor
    · rintro (⟨a, b, c⟩ | ⟨b, c⟩)
      · exact ⟨a, by omega, c⟩
      · exact ⟨n, by omega, b, c⟩
    · rintro ⟨a, b, c, d⟩
      by_cases e : a = n
      · subst e; exact Or.inr ⟨c, d⟩
      · exact Or.inl ⟨a, by omega, c, d⟩
theorem z_wg_ex {s : zS} (h : zW_k s) {p : Nat} : zex (z_bdk s p) (s 0 2) = z_wg s p := by
  rw [Bool.eq_iff_iff, zex_iff, z_wg, z_wa_iff]
  constructor
  · rintro ⟨k, hk, q⟩
    simp only [z_bdk, z_sk, Bool.and_eq_true, beq_iff_eq, decide_eq_true_eq, bne_iff_ne] at q
    exact ⟨s 9 k, q.2.1.1.2, q.2.2, (z_ga_iff h).mpr ⟨k, hk, q.1, rfl, q.2.1.1.1, by rw [← q.1]; exact q.2.1.2⟩⟩
  · rintro ⟨a, ha, hn, q⟩
    obtain ⟨k, a1, a2, a3, a4, a5⟩ := (z_ga_iff h).mp q
    refine ⟨k, a1, ?_⟩
    simp only [z_bdk, z_sk, Bool.and_eq_true, beq_iff_eq, decide_eq_true_eq, bne_iff_ne]
    exact ⟨a2, ⟨⟨a4, by omega⟩, by rw [a2, a3]; exact a5⟩, by rw [a3]; exact hn⟩
/-! counts by pictures -/
theorem zsum_one (f : Nat → Nat) {q c : Nat} : ∀ n, q < n → zsum (fun p => f p + (if p = q then c else 0)) n = zsum f n + c := by
  have h0 : ∀ n, n ≤ q → zsum (fun p => f p + (if p = q then c else 0)) n = zsum f n := by
    intro n hn
    exact zsum_congr (fun k hk => by rw [if_neg (by omega)]; rfl)
  intro n hn
  induction n with
  | zero => omega
  | succ n ih =>
    rw [zsum_s, zsum_s]
    by_cases e : n = q
    · rw [if_pos e, h0 n (by omega)]; omega
    · rw [if_neg e, ih (by omega)]; omega
theorem z_by_p {s : zS} (P : Nat → Bool) : ∀ n, (∀ k, k < n → s 8 k < s 0 0) → zcnt P n = zsum (fun p => zcnt (fun k => s 8 k == p && P k) n) (s 0 0) := by
  intro n
  induction n with
  | zero =>
    intro _
    have e : ∀ m, zsum (fun p => zcnt (fun k => s 8 k == p && P k) 0) m = 0 := by
      intro m
      induction m with
      | zero => rfl
      | succ m ih => rw [zsum_s, ih]; rfl
    rw [e]; rfl
  | succ n ih =>
    intro h
    have e : zsum (fun p => zcnt (fun k => s 8 k == p && P k) (n + 1)) (s 0 0) = zsum (fun p => zcnt (fun k => s 8 k == p && P k) n + (if p = s 8 n then (P n).toNat else 0)) (s 0 0) := by
      refine zsum_congr (fun p _ => ?_)
      rw [zcnt_s]
      by_cases q : p = s 8 n
      · rw [if_pos q, q]; simp
      · rw [if_neg q, show (s 8 n == p) = false by simp [Ne.symm q]]; simp
    rw [e, zsum_one _ _ (h n (by omega)), zcnt_s, ih (fun k hk => h k (by omega))]
theorem z_go2_p {s : zS} (h : zW_k s) : zcnt (z_go2 s) (s 0 2) = zsum (fun p => if z_gv s p then zcnt (z_nm s p) (s 0 2) else 0) (s 0 0) := by
  rw [z_by_p (z_go2 s) (s 0 2) (fun k hk => (h.2.1 k hk).2.1)]
  refine zsum_congr (fun p _ => ?_)
  cases g : z_gv s p with
  | true =>
    rw [if_pos rfl]
    refine zcnt_congr (fun k _ => ?_)
    rw [z_nm]
    by_cases q : s 8 k = p
    · simp [z_go2, q, g]
    · rw [show (s 8 k == p) = false by simp [q]]; rfl
  | false =>
    rw [if_neg (by decide)]
    have e : zcnt (fun k => s 8 k == p && z_go2 s k) (s 0 2) = zcnt (fun _ => false) (s 0 2) := by
      refine zcnt_congr (fun k _ => ?_)
      by_cases q : s 8 k = p
      · simp [z_go2, q, g]
      · simp [q]
    rw [e]
    have e2 : ∀ m, zcnt (fun _ => false) m = 0 := by
      intro m
      induction m with
      | zero => rfl
      | succ m ih => rw [zcnt_s, ih]; rfl
    exact e2 _
/-! the order of green ones -/
theorem zcnt_add {P Q R : Nat → Bool} {n : Nat} (h : ∀ k, k < n → (R k).toNat = (P k).toNat + (Q k).toNat) : zcnt R n = zcnt P n + zcnt Q n := by
  induction n with
  | zero => rfl
  | succ n ih =>
    have := ih (fun k hk => h k (by omega))
    have := h n (by omega)
    rw [zcnt_s, zcnt_s, zcnt_s]; omega
theorem zcnt_lt {P Q : Nat → Bool} {n j : Nat} (h : ∀ k, k < n → P k = true → Q k = true) (hj : j < n) (h1 : Q j = true) (h2 : P j = false) : zcnt P n < zcnt Q n := by
  have mono : ∀ m, m ≤ n → zcnt P m ≤ zcnt Q m := by
    intro m
    induction m with
    | zero => intro _; exact Nat.le_refl _
    | succ m ih =>
      intro hm
      have a := ih (by omega)
      have b := h m (by omega)
      rw [zcnt_s, zcnt_s]
      cases p : P m with
      | false => have : (false).toNat = 0 := rfl
                 omega
      | true => rw [b p]; omega
  induction n with
  | zero => omega
  | succ n ih =>
    rw [zcnt_s, zcnt_s]
    by_cases e : j = n
    · subst e
      have := mono j (by omega)
      rw [h1, h2]
      have q0 : (false).toNat = 0 := rfl
      have q1 : (true).toNat = 1 := rfl
      omega
    · have a := ih (fun k hk => h k (by omega)) (by omega) (fun m hm => mono m (by omega))
      have b := h n (by omega)
      cases p : P n with
      | false => have : (false).toNat = 0 := rfl
                 omega
      | true => rw [b p]; omega
theorem zcnt_below {P : Nat → Bool} {p : Nat} : ∀ n, p ≤ n → zcnt (fun q => P q && decide (q < p)) n = zcnt P p := by
  intro n hn
  induction n with
  | zero => have e : p = 0 := by omega
            subst e; rfl
  | succ n ih =>
    rcases Nat.lt_or_ge n p with q | q
    · have e : p = n + 1 := by omega
      subst e
      exact zcnt_congr (fun k hk => by rw [decide_eq_true hk]; simp)
    · rw [zcnt_s, ih q, decide_eq_false (by omega)]; simp
abbrev z_gs (s : zS) (p : Nat) : Nat := zcnt (z_gr s p) (s 0 2)
def z_ab (s : zS) (m : Nat) : Nat → Bool := fun q => decide (m < z_gs s q)
def z_ee (s : zS) (m : Nat) : Nat → Bool := fun q => z_gs s q == m
theorem z_ab_s (s : zS) (m n : Nat) : zcnt (z_ab s m) n = zcnt (z_ab s (m + 1)) n + zcnt (z_ee s (m + 1)) n := by
  refine zcnt_add (fun k _ => ?_)
  rw [z_ab, z_ab, z_ee]
  by_cases a : m + 1 < z_gs s k
  · rw [decide_eq_true a, decide_eq_true (by omega), show (z_gs s k == m + 1) = false by simp; omega]; rfl
  · by_cases b : z_gs s k = m + 1
    · rw [decide_eq_false a, decide_eq_true (by omega), show (z_gs s k == m + 1) = true by simp [b]]; rfl
    · rw [decide_eq_false a, decide_eq_false (by omega), show (z_gs s k == m + 1) = false by simp [b]]; rfl
theorem z_gt_n {s : zS} {p : Nat} (hp : p < s 0 0) : zcnt (z_gt s p) (s 0 0) = zcnt (z_ab s (z_gs s p)) (s 0 0) + zcnt (z_ee s (z_gs s p)) p := by
  rw [← zcnt_below (P := z_ee s (z_gs s p)) (s 0 0) (by omega)]
  refine zcnt_add (fun q _ => ?_)
  rw [z_gt, z_ab, z_ee]
  by_cases a : z_gs s p < z_gs s q
  · rw [decide_eq_true (Or.inl a), decide_eq_true a, show (z_gs s q == z_gs s p) = false by simp; omega]; rfl
  · by_cases b : z_gs s q = z_gs s p
    · by_cases c : q < p
      · rw [decide_eq_true (Or.inr ⟨b, c⟩), decide_eq_false a, show (z_gs s q == z_gs s p) = true by simp [b], decide_eq_true c]; rfl
      · rw [decide_eq_false (by rintro (r | r); exact a r; exact c r.2), decide_eq_false a, decide_eq_false c]; simp
    · rw [decide_eq_false (by rintro (r | r); exact a r; exact b r.1), decide_eq_false a, show (z_gs s q == z_gs s p) = false by simp [b]]; rfl
theorem z_gt_lt {s : zS} {p q : Nat} (hp : p < s 0 0) (h : z_gs s q < z_gs s p) : zcnt (z_gt s p) (s 0 0) < zcnt (z_gt s q) (s 0 0) := by
  have h : zcnt (z_gr s q) (s 0 2) < zcnt (z_gr s p) (s 0 2) := h
  refine zcnt_lt (j := p) (fun k _ hk => ?_) hp ?_ ?_
  · have hk := of_decide_eq_true hk
    exact decide_eq_true (Or.inl (by rcases hk with r | r <;> omega))
  · exact decide_eq_true (Or.inl h)
  · exact decide_eq_false (by rintro (r | r) <;> omega)
theorem z_of_le {s : zS} (h : zW_k s) (p : Nat) : ∀ L, zcnt (fun k => z_of s p k && decide (s 7 k < L)) (s 0 2) ≤ L := by
  intro L
  induction L with
  | zero =>
    have e : zcnt (fun k => z_of s p k && decide (s 7 k < 0)) (s 0 2) = zcnt (fun _ => false) (s 0 2) := zcnt_congr (fun k _ => by rw [decide_eq_false (by omega)]; simp)
    have e2 : ∀ m, zcnt (fun _ => false) m = 0 := by
      intro m
      induction m with
      | zero => rfl
      | succ m ih => rw [zcnt_s, ih]; rfl
    rw [e, e2]; exact Nat.le_refl _
  | succ L ih =>
    have e : zcnt (fun k => z_of s p k && decide (s 7 k < L + 1)) (s 0 2) = zcnt (fun k => z_of s p k && decide (s 7 k < L)) (s 0 2) + zcnt (fun k => z_at s L p k) (s 0 2) := by
      refine zcnt_add (fun k _ => ?_)
      rw [z_at, z_of]
      by_cases a : s 8 k = p
      · rw [show (s 8 k == p) = true by simp [a]]
        by_cases b : s 7 k < L
        · rw [decide_eq_true b, decide_eq_true (by omega), show (s 7 k == L) = false by simp; omega]; rfl
        · by_cases c : s 7 k = L
          · rw [decide_eq_false b, decide_eq_true (by omega), show (s 7 k == L) = true by simp [c]]; rfl
          · rw [decide_eq_false b, decide_eq_false (by omega), show (s 7 k == L) = false by simp [c]]; rfl
      · rw [show (s 8 k == p) = false by simp [a]]; simp
    have one : ∀ n, n ≤ s 0 2 → zcnt (fun k => z_at s L p k) n ≤ 1 := by
      intro n
      induction n with
      | zero => intro _; exact Nat.zero_le _
      | succ n ih2 =>
        intro hn
        have i2 := ih2 (by omega)
        rw [zcnt_s]
        cases q : z_at s L p n with
        | false => have : (false).toNat = 0 := rfl
                   omega
        | true =>
          have z : zcnt (fun k => z_at s L p k) n = 0 := by
            have e2 : ∀ m, zcnt (fun _ => false) m = 0 := by
              intro m
              induction m with
              | zero => rfl
              | succ m ih => rw [zcnt_s, ih]; rfl
            rw [← e2 n]
            refine zcnt_congr (fun k hk => ?_)
            cases r : z_at s L p k with
            | false => rfl
            | true =>
              simp only [z_at, Bool.and_eq_true, beq_iff_eq] at q r
              have := h.2.2 k n (by omega) (by omega) (by omega) (by omega)
              omega
          have : (true).toNat = 1 := rfl
          omega
    have := one (s 0 2) (Nat.le_refl _)
    omega
theorem z_gs_le {s : zS} (h : zW_k s) (h8 : s 0 1 ≤ 8) (p : Nat) : z_gs s p ≤ 8 := by
  have a := z_of_le h p (s 0 1)
  have b : zcnt (fun k => z_of s p k && decide (s 7 k < s 0 1)) (s 0 2) = zcnt (z_of s p) (s 0 2) := zcnt_congr (fun k hk => by rw [decide_eq_true (h.2.1 k hk).1]; simp)
  have c : z_gs s p ≤ zcnt (z_of s p) (s 0 2) := by
    have mono : ∀ m, zcnt (z_gr s p) m ≤ zcnt (z_of s p) m := by
      intro m
      induction m with
      | zero => exact Nat.le_refl _
      | succ m ih =>
        rw [zcnt_s, zcnt_s, z_gr, z_of]
        cases q : (s 8 m == p) with
        | false => simp only [Bool.false_and]; omega
        | true => have := Bool.toNat_le (true && s 9 m == 3)
                  have : (true).toNat = 1 := rfl
                  omega
    exact mono _
  omega
