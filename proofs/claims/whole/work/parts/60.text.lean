/-! texts: runs of signs, words, numbers, clauses, the whole text -/
def z_rl (P : Nat → Bool) : Nat → Nat → Nat
  | 0, _ => 0
  | f + 1, a => if P a then z_rl P f (a + 1) + 1 else 0
/-- where the run of P from a on ends, below n -/
def z_ru (P : Nat → Bool) (n a : Nat) : Nat := a + z_rl P (n - a) a
theorem z_ru_e {P : Nat → Bool} {n a : Nat} (h : n ≤ a) : z_ru P n a = a := by rw [z_ru, Nat.sub_eq_zero_of_le h]; rfl
theorem z_ru_t {P : Nat → Bool} {n a : Nat} (h : a < n) (hp : P a = true) : z_ru P n a = z_ru P n (a + 1) := by
  rw [z_ru, z_ru, show n - a = (n - (a + 1)) + 1 by omega, z_rl, if_pos hp]; omega
theorem z_ru_f {P : Nat → Bool} {n a : Nat} (hp : P a = false) : z_ru P n a = a := by
  rw [z_ru]
  cases n - a with
  | zero => rfl
  | succ f => rw [z_rl, if_neg (by rw [hp]; decide)]; rfl
theorem z_ru_ge (P : Nat → Bool) (n a : Nat) : a ≤ z_ru P n a := Nat.le_add_right _ _
theorem z_rl_le (P : Nat → Bool) : ∀ f a, z_rl P f a ≤ f := by
  intro f
  induction f with
  | zero => intro a; exact Nat.le_refl _
  | succ f ih => intro a; rw [z_rl]; split; exact Nat.succ_le_succ (ih _); omega
theorem z_ru_n {P : Nat → Bool} {n a : Nat} (h : a ≤ n) : z_ru P n a ≤ n := by
  have := z_rl_le P (n - a) a
  rw [z_ru]; omega
theorem z_ru_in {P : Nat → Bool} {n : Nat} : ∀ (f a j : Nat), n - a = f → a ≤ j → j < z_ru P n a → P j = true := by
  intro f
  induction f with
  | zero => intro a j hf h1 h2; rw [z_ru, hf, z_rl] at h2; omega
  | succ f ih =>
    intro a j hf h1 h2
    cases hp : P a with
    | false => rw [z_ru_f hp] at h2; omega
    | true =>
      rcases Nat.eq_or_lt_of_le h1 with e | e
      · rw [← e]; exact hp
      · rw [z_ru_t (by omega) hp] at h2
        exact ih (a + 1) j (by omega) (by omega) h2
theorem z_ru_run {P : Nat → Bool} {n a j : Nat} (h1 : a ≤ j) (h2 : j < z_ru P n a) : P j = true := z_ru_in (n - a) a j rfl h1 h2
def z_all (P : Nat → Bool) : Nat → Bool
  | 0 => true
  | n + 1 => z_all P n && P n
theorem z_all_f {P : Nat → Bool} {j : Nat} (h : P j = false) : ∀ n, j < n → z_all P n = false := by
  intro n
  induction n with
  | zero => intro h; omega
  | succ n ih =>
    intro hn
    rw [z_all]
    by_cases e : j = n
    · rw [← e, h, Bool.and_false]
    · rw [ih (by omega), Bool.false_and]
theorem z_all_c {P Q : Nat → Bool} : ∀ n, (∀ j, j < n → P j = Q j) → z_all P n = z_all Q n := by
  intro n
  induction n with
  | zero => intro _; rfl
  | succ n ih => intro h; rw [z_all, z_all, ih (fun j hj => h j (by omega)), h n (by omega)]
theorem z_all_mf {P : Nat → Bool} {j n : Nat} (h : z_all P j = false) (hj : j ≤ n) : z_all P n = false := by
  induction n with
  | zero => have e : j = 0 := by omega
            subst e; exact h
  | succ n ih =>
    rcases Nat.lt_or_ge n j with q | q
    · have e : j = n + 1 := by omega
      rw [← e]; exact h
    · rw [z_all, ih q, Bool.false_and]
def z_bl (s : zS) : Nat → Bool := fun j => s 11 j == 32
def z_isl (x : Nat) : Bool := decide (97 ≤ x ∧ x ≤ 122)
def z_isf (x : Nat) : Bool := decide (48 ≤ x ∧ x ≤ 57)
def z_le (s : zS) : Nat → Bool := fun j => z_isl (s 11 j)
def z_fg (s : zS) : Nat → Bool := fun j => z_isf (s 11 j)
def z_sp (s : zS) (a : Nat) : Nat := z_ru (z_bl s) (s 0 4) a
def z_we (s : zS) (a : Nat) : Nat := z_ru (z_le s) (s 0 4) a
def z_ne (s : zS) (a : Nat) : Nat := z_ru (z_fg s) (s 0 4) a
/-- word w of the laws lies from a up to e -/
def z_wm (s : zS) (a e w : Nat) : Bool := z_wl w == e - a && z_all (fun j => z_wc w j == s 11 (a + j)) (z_wl w)
/-- which word stands at a, and 1; 0: none -/
def z_w (s : zS) (a : Nat) : Nat := zfind (z_wm s a (z_we s a)) 8
theorem z_w_le (s : zS) (a : Nat) : z_w s a ≤ 8 := zfind_le _ 8
def z_wq (s : zS) (rv : Nat → Nat) (a : Nat) : Nat := if z_w s a = 0 then 1 else if rv (z_w s a - 1) = 0 then 0 else 3
/-- the value of the figures from b on -/
def z_va (s : zS) (b : Nat) : Nat → Nat
  | 0 => 0
  | d + 1 => if d < 3 then z_va s b d * 10 + s 11 (b + d) - 48 else z_va s b d
def z_vr (s : zS) (b : Nat) : Nat → Nat
  | 0 => 0
  | d + 1 => if 999 < z_vr s b d then z_vr s b d else 10 * z_vr s b d + s 11 (b + d) - 48
theorem z_va_b {s : zS} {b : Nat} : ∀ d, (∀ j, j < d → z_fg s (b + j) = true) → z_va s b d < 10 ^ (min d 3) := by
  intro d
  induction d with
  | zero => intro _; exact (show 0 < 10 ^ 0 by decide)
  | succ d ih =>
    intro h
    have i := ih (fun j hj => h j (by omega))
    have q := of_decide_eq_true (h d (by omega))
    rw [z_va]
    split
    · rw [Nat.min_eq_left (by omega)] at i ⊢
      rw [Nat.pow_succ]; omega
    · rw [Nat.min_eq_right (by omega)] at i ⊢; exact i
theorem z_va_le {s : zS} {b d : Nat} (h : ∀ j, j < d → z_fg s (b + j) = true) : z_va s b d ≤ 999 := by
  have := z_va_b d h
  have : 10 ^ (min d 3) ≤ 10 ^ 3 := Nat.pow_le_pow_right (by decide) (by omega)
  have : 10 ^ 3 = 1000 := by decide
  omega
theorem z_vr_va {s : zS} {b : Nat} : ∀ d, d ≤ 3 → (∀ j, j < d → z_fg s (b + j) = true) → z_vr s b d = z_va s b d := by
  intro d
  induction d with
  | zero => intro _ _; rfl
  | succ d ih =>
    intro hd h
    have i := ih (by omega) (fun j hj => h j (by omega))
    have l := z_va_le (d := d) (fun j hj => h j (by omega))
    rw [z_vr, z_va, i, if_neg (by omega), if_pos (by omega), Nat.mul_comm]
theorem z_vr_le {s : zS} {b : Nat} : ∀ d, (∀ j, j < d → z_fg s (b + j) = true) → z_vr s b d ≤ 9999 := by
  intro d
  induction d with
  | zero => intro _; exact Nat.zero_le _
  | succ d ih =>
    intro h
    have i := ih (fun j hj => h j (by omega))
    have q := of_decide_eq_true (h d (by omega))
    rw [z_vr]; split <;> omega
def z_vv (s : zS) (b : Nat) : Nat := z_va s b (z_ne s b - b)
theorem z_ne_fg {s : zS} {b j : Nat} (h : b + j < z_ne s b) : z_fg s (b + j) = true := z_ru_run (Nat.le_add_right _ _) h
theorem z_vv_le (s : zS) (b : Nat) : z_vv s b ≤ 999 := z_va_le (fun j hj => z_ne_fg (by omega))
/-- the fault of a number at b for law k -/
def z_nf (s : zS) (k b : Nat) : Nat := if z_ne s b = b then 1 else if z_ne s b - b ≤ 3 ∧ zlo k ≤ z_vv s b ∧ z_vv s b ≤ zhi k then 0 else 2
/-- a clause at a: its fault (0: none), the fault's place or where the clause ends -/
def z_cf (s : zS) (rv : Nat → Nat) (a : Nat) : Nat × Nat :=
  if z_wq s rv a = 0 then
    if z_nf s (z_w s a - 1) (z_sp s (z_we s a)) = 0 then
      if z_sp s (z_ne s (z_sp s (z_we s a))) < s 0 4 ∧ s 11 (z_sp s (z_ne s (z_sp s (z_we s a)))) = 59 then (0, z_sp s (z_ne s (z_sp s (z_we s a))) + 1)
      else (1, z_sp s (z_ne s (z_sp s (z_we s a))))
    else (z_nf s (z_w s a - 1) (z_sp s (z_we s a)), z_sp s (z_we s a))
  else (z_wq s rv a, a)
def z_cv (s : zS) (rv : Nat → Nat) (a : Nat) : Nat → Nat := zup rv (z_w s a - 1) (z_vv s (z_sp s (z_we s a)) + 1)
def z_ps (s : zS) : Nat → (Nat → Nat) → Nat → Nat × Nat × (Nat → Nat)
  | 0, rv, _ => (0, 0, rv)
  | m + 1, rv, a => if a < s 0 4 then (if (z_cf s rv a).1 = 0 then z_ps s m (z_cv s rv a) (z_sp s (z_cf s rv a).2) else ((z_cf s rv a).1, (z_cf s rv a).2, rv)) else (0, 0, rv)
def z_pr (s : zS) : Nat × Nat × (Nat → Nat) := z_ps s 9 (fun _ => 0) (z_sp s 0)
def zfi (j : Nat) : Nat := [90, 60, 30, 5, 90, 8, 3, 95].getD j 0
theorem zfi_in : ∀ j, j < 8 → zlo j ≤ zfi j ∧ zfi j ≤ zhi j := by decide +kernel
def z_nl (rv : Nat → Nat) : Nat → Nat := fun j => if rv j = 0 then zfi j else rv j - 1
def z_nt (rv : Nat → Nat) : Nat → Bool := fun j => rv j != 0
def zq_read (s : zS) : Int32 × zS :=
  if (z_pr s).1 = 0 then (nI (zcnt (z_nt (z_pr s).2.2) 8), zset (zset s 10 (z_nl (z_pr s).2.2)) 0 (zup (zup (s 0) 4 0) 7 0))
  else (-10 - nI (z_pr s).1, zset s 0 (zup (zup (s 0) 4 0) 7 ((z_pr s).2.1 + 1)))
/-! bounds -/
theorem z_sp_n {s : zS} {a : Nat} (h : a ≤ s 0 4) : z_sp s a ≤ s 0 4 := z_ru_n h
theorem z_we_n {s : zS} {a : Nat} (h : a ≤ s 0 4) : z_we s a ≤ s 0 4 := z_ru_n h
theorem z_ne_n {s : zS} {a : Nat} (h : a ≤ s 0 4) : z_ne s a ≤ s 0 4 := z_ru_n h
theorem z_nf_0 {s : zS} {k b : Nat} (h : z_nf s k b = 0) : zlo k ≤ z_vv s b ∧ z_vv s b ≤ zhi k := by
  rw [z_nf] at h
  split at h
  · omega
  · split at h
    · rename_i q; exact q.2
    · omega
theorem z_cf_0 {s : zS} {rv : Nat → Nat} {a : Nat} (h : (z_cf s rv a).1 = 0) : z_wq s rv a = 0 ∧ z_nf s (z_w s a - 1) (z_sp s (z_we s a)) = 0 ∧ z_sp s (z_ne s (z_sp s (z_we s a))) < s 0 4 ∧ s 11 (z_sp s (z_ne s (z_sp s (z_we s a)))) = 59 ∧ (z_cf s rv a).2 = z_sp s (z_ne s (z_sp s (z_we s a))) + 1 := by
  rw [z_cf] at h ⊢
  by_cases h1 : z_wq s rv a = 0
  · rw [if_pos h1] at h ⊢
    by_cases h2 : z_nf s (z_w s a - 1) (z_sp s (z_we s a)) = 0
    · rw [if_pos h2] at h ⊢
      by_cases h3 : z_sp s (z_ne s (z_sp s (z_we s a))) < s 0 4 ∧ s 11 (z_sp s (z_ne s (z_sp s (z_we s a)))) = 59
      · rw [if_pos h3]; exact ⟨h1, h2, h3.1, h3.2, rfl⟩
      · rw [if_neg h3] at h; exact absurd h (show ¬ (1 : Nat) = 0 by decide)
    · rw [if_neg h2] at h; exact absurd h h2
  · rw [if_neg h1] at h; exact absurd h h1
theorem z_wq_0 {s : zS} {rv : Nat → Nat} {a : Nat} (h : z_wq s rv a = 0) : z_w s a ≠ 0 ∧ rv (z_w s a - 1) = 0 := by
  rw [z_wq] at h
  split at h
  · omega
  · split at h
    · rename_i q1 q2; exact ⟨q1, q2⟩
    · omega
/-- told values are in their bounds -/
def z_rvk (rv : Nat → Nat) : Prop := ∀ j, j < 8 → rv j = 0 ∨ (zlo j ≤ rv j - 1 ∧ rv j - 1 ≤ zhi j)
theorem z_cv_k {s : zS} {rv : Nat → Nat} {a : Nat} (hr : z_rvk rv) (h : (z_cf s rv a).1 = 0) : z_rvk (z_cv s rv a) := by
  intro j hj
  rw [z_cv]
  by_cases e : j = z_w s a - 1
  · rw [e, zup_s]
    right
    have q := z_nf_0 (z_cf_0 h).2.1
    rw [Nat.add_sub_cancel]
    exact q
  · rw [zup_n e]; exact hr j hj
theorem z_ps_k {s : zS} : ∀ m rv a, z_rvk rv → z_rvk (z_ps s m rv a).2.2 := by
  intro m
  induction m with
  | zero => intro rv a h; exact h
  | succ m ih =>
    intro rv a h
    rw [z_ps]
    split
    · split
      · rename_i q; exact ih _ _ (z_cv_k h q)
      · exact h
    · exact h
theorem z_nl_in {rv : Nat → Nat} (h : z_rvk rv) : ∀ j, j < 8 → zlo j ≤ z_nl rv j ∧ z_nl rv j ≤ zhi j := by
  intro j hj
  rw [z_nl]
  split
  · exact zfi_in j hj
  · rcases h j hj with q | q
    · rename_i e; exact absurd q e
    · exact q
theorem zW_read {s : zS} (h : zW s) : zW (zq_read s).2 := by
  rw [zq_read]
  have t0 : ∀ (f : Nat), zW_t (zset s 0 (zup (zup (s 0) 4 0) 7 f)) := fun f => ⟨Nat.zero_le _, fun j hj => absurd hj (Nat.not_lt_zero _)⟩
  split
  · exact ⟨h.1, h.2.1, h.2.2.1, fun j hj => z_nl_in (z_ps_k 9 (fun _ => 0) _ (fun j _ => Or.inl rfl)) j hj, ⟨Nat.zero_le _, fun j hj => absurd hj (Nat.not_lt_zero _)⟩, h.2.2.2.2.2⟩
  · exact ⟨h.1, h.2.1, h.2.2.1, h.2.2.2.1, t0 _, h.2.2.2.2.2⟩
/-! bytes of a long, the highest first -/
def z_bt (b : Int64) (k : Nat) : Nat := b.toUInt64.toNat / 2 ^ (8 * k) % 256
def z_fd (s : zS) (n : Nat) (b : Int64) : Nat → Nat := fun j => if s 0 4 ≤ j ∧ j < s 0 4 + n then z_bt b (s 0 4 + n - 1 - j) else s 11 j
def zfeed (s : zS) (n : Nat) (b : Int64) : zS := zset (zset s 11 (z_fd s n b)) 0 (zup (s 0) 4 (s 0 4 + n))
def zq_feed (s : zS) (n : Int32) (b : Int64) : Int32 × zS := if zwi 1 8 n then (if s 0 4 + zn n ≤ 160 then (nI (s 0 4 + zn n), zfeed s (zn n) b) else (-1004, s)) else (-1002, s)
theorem z_bt_lt (b : Int64) (k : Nat) : z_bt b k < 256 := Nat.mod_lt _ (by decide)
theorem zW_feed {s : zS} (h : zW s) (n : Int32) (b : Int64) : zW (zq_feed s n b).2 := by
  rw [zq_feed]
  split
  · split
    · rename_i q
      refine ⟨h.1, h.2.1, h.2.2.1, h.2.2.2.1, ⟨q, fun j hj => ?_⟩, h.2.2.2.2.2⟩
      have hj : j < s 0 4 + zn n := hj
      show z_fd s (zn n) b j < 256
      rw [z_fd]
      split
      · exact z_bt_lt _ _
      · exact h.2.2.2.2.1.2 j (by omega)
    · exact h
  · exact h
