/-! reckoning: a table in which the first places are new; whether places differ -/
def z_mix (new old : Nat → Nat) (n : Nat) : Nat → Nat := fun j => if j < n then new j else old j
def z_df (old new : Nat → Nat) : Nat → Bool
  | 0 => false
  | n + 1 => z_df old new n || old n != new n
theorem z_mix_s (new old : Nat → Nat) (n : Nat) : zup (z_mix new old n) n (new n) = z_mix new old (n + 1) := by
  funext j
  by_cases h : j = n
  · subst h; rw [zup_s, z_mix, if_pos (by omega)]
  · rw [zup_n h, z_mix, z_mix]
    by_cases q : j < n
    · rw [if_pos q, if_pos (by omega)]
    · rw [if_neg q, if_neg (by omega)]
theorem z_mix_at (new old : Nat → Nat) (n : Nat) : z_mix new old n n = old n := if_neg (by omega)
theorem z_mix_0 (new old : Nat → Nat) : z_mix new old 0 = old := by funext j; exact if_neg (by omega)
theorem z_mix_eq {new old : Nat → Nat} {n : Nat} (h : ∀ j, n ≤ j → new j = old j) : z_mix new old n = new := by
  funext j
  rw [z_mix]
  by_cases q : j < n
  · rw [if_pos q]
  · rw [if_neg q, h j (by omega)]
theorem z_mix_same {new old : Nat → Nat} {m n : Nat} (hm : m ≤ n) (h : ∀ j, m ≤ j → j < n → old j = new j) : z_mix new old n = z_mix new old m := by
  funext j
  rw [z_mix, z_mix]
  by_cases q : j < m
  · rw [if_pos q, if_pos (by omega)]
  · by_cases q2 : j < n
    · rw [if_pos q2, if_neg q, h j (by omega) q2]
    · rw [if_neg q2, if_neg q]
theorem z_df_same {new old : Nat → Nat} {m n : Nat} (hm : m ≤ n) (h : ∀ j, m ≤ j → j < n → old j = new j) : z_df old new n = z_df old new m := by
  induction n with
  | zero => have e : m = 0 := by omega
            rw [e]
  | succ n ih =>
    rcases Nat.lt_or_ge m (n + 1) with q | q
    · rw [z_df, ih (by omega) (fun j a b => h j a (by omega)), h n (by omega) (by omega)]; simp
    · have e : m = n + 1 := by omega
      rw [e]
/-- a kind's chance at a picture after n looks -/
def z_ch (s : zS) (p k : Nat) : Nat → Nat
  | 0 => s 14 k
  | n + 1 => if z_co s n && s 8 n == p then z_ch s p k n * s 13 (12 * s 7 n + 4 * k + s 9 n) else z_ch s p k n
def z_cs (s : zS) (p : Nat) : Nat := z_ch s p 0 (s 0 2) + z_ch s p 1 (s 0 2) + z_ch s p 2 (s 0 2)
def z_sr (s : zS) (p k : Nat) : Nat := z_ch s p k (s 0 2) * 1000 / z_cs s p
def z_b3 (f : Nat → Nat) : Nat := if f 1 ≤ f 0 ∧ f 2 ≤ f 0 then 0 else if f 2 ≤ f 1 then 1 else 2
def z_od (s : zS) (p k : Nat) : Nat := if s 4 p = 1 then (if k = s 1 p then 1000 else 0) else z_sr s p k + (if k = z_b3 (z_sr s p) then 1000 - z_sr s p 0 - z_sr s p 1 - z_sr s p 2 else 0)
def z_o1 (s : zS) : Nat → Nat := fun j => if j < 3 * s 0 0 then z_od s (j / 3) (j % 3) else s 12 j
def z_R1 (s : zS) : zS := zset s 12 (z_o1 s)
def z_tf (s : zS) (l k a : Nat) : Nat → Nat := fun x => if (s 7 x == l && s 9 x == a) && z_co s x then s 12 (3 * s 8 x + k) else 0
def z_ts (s : zS) (l k a : Nat) : Nat := zsum (z_tf s l k a) (s 0 2)
def z_tw (s : zS) (l k : Nat) : Nat := z_ts s l k 0 + z_ts s l k 1 + z_ts s l k 2 + z_ts s l k 3
def z_t1 (s : zS) : Nat → Nat := fun j => if z_tw s (j / 12) (j / 4 % 3) = 0 then s 13 j else 1 + 96 * z_ts s (j / 12) (j / 4 % 3) (j % 4) / z_tw s (j / 12) (j / 4 % 3)
def z_R2 (s : zS) : zS := zset s 13 (z_t1 s)
def z_sm (s : zS) (k : Nat) : Nat → Nat := zsum (fun p => s 12 (3 * p + k))
def z_y1 (s : zS) : Nat → Nat := if s 0 0 = 0 then s 14 else fun k => max 1 (if k = 0 then 1000 - z_sm s 1 (s 0 0) / s 0 0 - z_sm s 2 (s 0 0) / s 0 0 else z_sm s k (s 0 0) / s 0 0)
def z_R3 (s : zS) : zS := zset s 14 (z_y1 s)
def z_r0 (s : zS) (r : Nat) : zS := zset s 0 (zup (s 0) 5 r)
def z_rd (s : zS) (r : Nat) : zS := z_R3 (z_R2 (z_R1 (z_r0 s r)))
def z_RF (s : zS) : Bool := z_df (s 12) (z_o1 s) (3 * s 0 0) || z_df (s 13) (z_t1 (z_R1 s)) 96 || z_df (s 14) (z_y1 (z_R2 (z_R1 s))) 3
def z_se (s : zS) (r : Nat) : Nat → zS × Int32
  | 0 => (s, -41)
  | f + 1 => if z_RF (z_r0 s (r + 1)) then z_se (z_rd s (r + 1)) (r + 1) f else (z_rd s (r + 1), nI (r + 1))
def z_o0 : Nat → Nat := fun j => if j % 3 = 0 then 334 else 333
def z_t0 : Nat → Nat := fun j => if j / 4 % 3 = j % 4 then 70 else 10
def z_y0 : Nat → Nat := fun j => if j = 0 then 334 else 333
def z_B (s : zS) : zS := zset (zset (zset s 12 z_o0) 13 z_t0) 14 z_y0
def z_rk (s : zS) : zS × Int32 := z_se (z_B s) 0 40
/-! bounds -/
theorem z_ch_le {s : zS} (hk : zW_k s) (ho : zW_o s) {p k : Nat} (hk3 : k < 3) (h8 : s 0 1 ≤ 8) : ∀ n, n ≤ s 0 2 → 1 ≤ z_ch s p k n ∧ z_ch s p k n ≤ 1000 * 97 ^ (min 6 (zcnt (z_of s p) n)) := by
  intro n
  induction n with
  | zero =>
    intro _
    have := ho.2.2.1 k (by omega)
    rw [z_ch]
    exact ⟨this.1, Nat.le_trans this.2 (Nat.le_mul_of_pos_right _ (Nat.pow_pos (by decide)))⟩
  | succ n ih =>
    intro hn
    have ih := ih (by omega)
    have hl := hk.2.1 n (by omega)
    have ht := ho.2.1 (12 * s 7 n + 4 * k + s 9 n) (by omega)
    rw [z_ch]
    by_cases q : (z_co s n && s 8 n == p) = true
    · rw [if_pos q]
      simp only [Bool.and_eq_true, beq_iff_eq, z_co, decide_eq_true_eq] at q
      obtain ⟨q1, q2⟩ := q
      rw [q2] at q1
      have e : zcnt (z_of s p) (n + 1) = zcnt (z_of s p) n + 1 := by
        rw [zcnt_s]; simp [z_of, q2]
      refine ⟨Nat.mul_pos ih.1 ht.1, ?_⟩
      rw [e, Nat.min_eq_right (by omega), Nat.pow_succ, ← Nat.mul_assoc]
      have i2 := ih.2
      rw [Nat.min_eq_right (by omega)] at i2
      exact Nat.mul_le_mul i2 ht.2
    · rw [if_neg q]
      refine ⟨ih.1, Nat.le_trans ih.2 (Nat.mul_le_mul_left _ (Nat.pow_le_pow_right (by decide) ?_))⟩
      have := zcnt_mono (z_of s p) (show n ≤ n + 1 by omega)
      omega
theorem z_ch_b {s : zS} (hk : zW_k s) (ho : zW_o s) {p k : Nat} (hk3 : k < 3) (h8 : s 0 1 ≤ 8) : 1 ≤ z_ch s p k (s 0 2) ∧ z_ch s p k (s 0 2) ≤ 832972004929000 := by
  have h := z_ch_le hk ho (p := p) hk3 h8 (s 0 2) (Nat.le_refl _)
  refine ⟨h.1, Nat.le_trans h.2 (Nat.le_trans (Nat.mul_le_mul_left 1000 (Nat.pow_le_pow_right (show 0 < 97 by decide) (show min 6 (zcnt (z_of s p) (s 0 2)) ≤ 6 by omega))) (by decide))⟩
theorem z_sr3 {s : zS} {p : Nat} (h : 0 < z_cs s p) : z_sr s p 0 + z_sr s p 1 + z_sr s p 2 ≤ 1000 := by
  have a := Nat.div_mul_le_self (z_ch s p 0 (s 0 2) * 1000) (z_cs s p)
  have b := Nat.div_mul_le_self (z_ch s p 1 (s 0 2) * 1000) (z_cs s p)
  have c := Nat.div_mul_le_self (z_ch s p 2 (s 0 2) * 1000) (z_cs s p)
  refine Nat.le_of_mul_le_mul_right ?_ h
  show (z_sr s p 0 + z_sr s p 1 + z_sr s p 2) * z_cs s p ≤ 1000 * z_cs s p
  rw [Nat.add_mul, Nat.add_mul]
  have e : 1000 * z_cs s p = z_ch s p 0 (s 0 2) * 1000 + z_ch s p 1 (s 0 2) * 1000 + z_ch s p 2 (s 0 2) * 1000 := by rw [z_cs]; omega
  rw [e]
  exact Nat.add_le_add (Nat.add_le_add a b) c
theorem z_cs_pos {s : zS} (hk : zW_k s) (ho : zW_o s) (h8 : s 0 1 ≤ 8) (p : Nat) : 0 < z_cs s p ∧ z_cs s p < 2 ^ 52 := by
  have a := z_ch_b hk ho (p := p) (k := 0) (by decide) h8
  have b := z_ch_b hk ho (p := p) (k := 1) (by decide) h8
  have c := z_ch_b hk ho (p := p) (k := 2) (by decide) h8
  rw [z_cs]; omega
theorem z_od_le {s : zS} {p : Nat} (h : 0 < z_cs s p) {k : Nat} (hk : k < 3) : z_od s p k ≤ 1000 := by
  have h3 := z_sr3 h
  rw [z_od]
  split
  · split <;> omega
  · rcases (show k = 0 ∨ k = 1 ∨ k = 2 by omega) with r | r | r <;> subst r <;> split <;> omega
theorem z_o1_le {s : zS} (hk : zW_k s) (ho : zW_o s) (h8 : s 0 1 ≤ 8) : ∀ j, j < 72 → z_o1 s j ≤ 1000 := by
  intro j hj
  rw [z_o1]; split
  · exact z_od_le (z_cs_pos hk ho h8 _).1 (Nat.mod_lt _ (by decide))
  · exact ho.1 j hj
theorem z_ts_le {s : zS} (hk : zW_k s) (hp : zW_p s) (ho : zW_o s) {l k a : Nat} (hk3 : k < 3) : z_ts s l k a ≤ 200000 := by
  have h2 := hk.1
  have : z_ts s l k a ≤ s 0 2 * 1000 := by
    apply zsum_le
    intro x hx
    show (if _ then _ else _) ≤ 1000
    split
    · have := hk.2.1 x hx; have := hp.1; exact ho.1 _ (by omega)
    · omega
  omega
theorem z_t1_in {s : zS} (ho : zW_o s) : ∀ j, j < 96 → 1 ≤ z_t1 s j ∧ z_t1 s j ≤ 97 := by
  intro j hj
  rw [z_t1]; split
  · exact ho.2.1 j hj
  · rename_i h
    have h1 : z_ts s (j / 12) (j / 4 % 3) (j % 4) ≤ z_tw s (j / 12) (j / 4 % 3) := by
      have h4 : j % 4 < 4 := Nat.mod_lt _ (by decide)
      rcases (show j % 4 = 0 ∨ j % 4 = 1 ∨ j % 4 = 2 ∨ j % 4 = 3 by omega) with r | r | r | r <;> rw [r, z_tw] <;> omega
    have h2 : 96 * z_ts s (j / 12) (j / 4 % 3) (j % 4) / z_tw s (j / 12) (j / 4 % 3) ≤ 96 := by
      refine Nat.div_le_of_le_mul ?_
      rw [Nat.mul_comm _ 96]
      exact Nat.mul_le_mul_left _ h1
    exact ⟨Nat.le_add_right _ _, Nat.add_le_add_left h2 1⟩
theorem z_sm_le {s : zS} (hp : zW_p s) (ho : zW_o s) {k n : Nat} (hk : k < 3) (hn : n ≤ s 0 0) : z_sm s k n ≤ n * 1000 := by
  have := hp.1
  exact zsum_le (fun p h => ho.1 _ (by omega))
theorem z_y1_in {s : zS} (hp : zW_p s) (ho : zW_o s) : ∀ k, k < 3 → 1 ≤ z_y1 s k ∧ z_y1 s k ≤ 1000 := by
  intro k hk
  rw [z_y1]
  split
  · exact ho.2.2.1 k hk
  · rename_i h0
    have h1 : z_sm s k (s 0 0) / s 0 0 ≤ 1000 := Nat.div_le_of_le_mul (z_sm_le hp ho hk (Nat.le_refl _))
    have h2 : ∀ a b c : Nat, c ≤ 1000 → 1 ≤ max 1 (if k = 0 then 1000 - a - b else c) ∧ max 1 (if k = 0 then 1000 - a - b else c) ≤ 1000 := by
      intro a b c h
      split <;> omega
    exact h2 _ _ _ h1
theorem zW_rd {s : zS} (h : zW s) {r : Nat} (hr : r ≤ 40) : zW (z_rd s r) := by
  have h8 := h.2.1.1
  have a : zW_o (z_r0 s r) := ⟨h.2.2.2.2.2.2.1.1, h.2.2.2.2.2.2.1.2.1, h.2.2.2.2.2.2.1.2.2.1, hr⟩
  have b : zW_o (z_R1 (z_r0 s r)) := ⟨z_o1_le (s := z_r0 s r) h.2.2.1 a h8, a.2.1, a.2.2.1, hr⟩
  have c : zW_o (z_R2 (z_R1 (z_r0 s r))) := ⟨b.1, z_t1_in b, b.2.2.1, hr⟩
  have d : zW_o (z_rd s r) := ⟨c.1, c.2.1, z_y1_in (s := z_R2 (z_R1 (z_r0 s r))) h.1 c, hr⟩
  exact ⟨h.1, h.2.1, h.2.2.1, h.2.2.2.1, h.2.2.2.2.1, h.2.2.2.2.2.1, d, h.2.2.2.2.2.2.2⟩
theorem z_o0_le (j : Nat) : z_o0 j ≤ 1000 := by rw [z_o0]; split <;> omega
theorem z_t0_in (j : Nat) : 1 ≤ z_t0 j ∧ z_t0 j ≤ 97 := by rw [z_t0]; split <;> omega
theorem z_y0_in (j : Nat) : 1 ≤ z_y0 j ∧ z_y0 j ≤ 1000 := by rw [z_y0]; split <;> omega
theorem zW_B {s : zS} (h : zW s) : zW (z_B s) :=
  ⟨h.1, h.2.1, h.2.2.1, h.2.2.2.1, h.2.2.2.2.1, h.2.2.2.2.2.1, ⟨fun j _ => z_o0_le j, fun j _ => z_t0_in j, fun j _ => z_y0_in j, h.2.2.2.2.2.2.1.2.2.2⟩, h.2.2.2.2.2.2.2⟩
theorem zW_se {s : zS} (h : zW s) : ∀ f r, r + f ≤ 40 → zW (z_se s r f).1 := by
  intro f
  induction f generalizing s with
  | zero => intro r _; exact h
  | succ f ih =>
    intro r hr
    rw [z_se]; split
    · exact ih (zW_rd h (by omega)) (r + 1) (by omega)
    · exact zW_rd h (by omega)
theorem zW_rk {s : zS} (h : zW s) : zW (z_rk s).1 := zW_se (zW_B h) 40 0 (by omega)
/-- kinds of a cell of odds -/
theorem z3d {p k : Nat} (hk : k < 3) : (3 * p + k) / 3 = p ∧ (3 * p + k) % 3 = k := by omega
theorem z_o1_at {s : zS} {p k : Nat} (hp : p < s 0 0) (hk : k < 3) : z_o1 s (3 * p + k) = z_od s p k := by
  rw [z_o1, if_pos (by omega), (z3d hk).1, (z3d hk).2]
