/-! trees: sets as numbers below 256 -/
def z_no (S Y : Nat) : Nat := S &&& (255 ^^^ Y)
/-- the sum of weights of a set -/
def z_ws (w : Nat → Nat) (S : Nat) : Nat → Nat
  | 0 => 0
  | t + 1 => z_ws w S t + (if S.testBit t then w t else 0)
/-- the best question of a set (0: none, else its number and 1), and what it leaves to ask; T: asks of smaller sets -/
def z_be (q T : Nat → Nat) (S : Nat) : Nat → Nat × Nat
  | 0 => (0, 0)
  | k + 1 => if (S &&& q k ≠ 0 ∧ z_no S (q k) ≠ 0) ∧ ((z_be q T S k).1 = 0 ∨ T (S &&& q k) + T (z_no S (q k)) < (z_be q T S k).2) then (k + 1, T (S &&& q k) + T (z_no S (q k))) else z_be q T S k
/-- asks, first, depth of a set, by those of smaller sets -/
def z_en (w q : Nat → Nat) (T : Nat → Nat × Nat × Nat) (S : Nat) : Nat × Nat × Nat :=
  if (z_be q (fun x => (T x).1) S 6).1 = 0 then (0, 0, 0) else
    (z_ws w S 8 + (z_be q (fun x => (T x).1) S 6).2, (z_be q (fun x => (T x).1) S 6).1, 1 + max (T (S &&& q ((z_be q (fun x => (T x).1) S 6).1 - 1))).2.2 (T (z_no S (q ((z_be q (fun x => (T x).1) S 6).1 - 1)))).2.2)
/-- of all sets below n -/
def z_tr (w q : Nat → Nat) : Nat → Nat → Nat × Nat × Nat
  | 0 => fun _ => (0, 0, 0)
  | n + 1 => fun S => if S = n then z_en w q (z_tr w q n) n else z_tr w q n S
def zX_q (s : zS) (M : mm_M) : Prop := M.1 5 5 = nI (s 0 6) ∧ (∀ t, t < 8 → M.1 25 t = nI (s 15 t)) ∧ (∀ k, k < 6 → M.1 26 k = nI (s 16 k)) ∧
  (M.1 5 6 = nI 0 ∨ (M.1 5 6 = nI 1 ∧ ∀ S, 1 ≤ S → S < 2 ^ s 0 6 → M.1 27 S = nI (z_tr (s 15) (s 16) (2 ^ s 0 6) S).1 ∧ M.1 28 S = zmv (z_tr (s 15) (s 16) (2 ^ s 0 6) S).2.1 ∧ M.1 29 S = nI (z_tr (s 15) (s 16) (2 ^ s 0 6) S).2.2))
def zR_q (s : zS) (M : mm_M) : Prop := M.1 35 31 = nI (s 0 6) ∧ (∀ t, t < 8 → M.1 55 t = nI (s 15 t)) ∧ ∀ k, k < 6 → M.1 56 k = nI (s 16 k)
def zW (s : zS) : Prop := zW_p s ∧ zW_l s ∧ zW_k s ∧ zW_w s ∧ zW_t s ∧ zW_d s ∧ zW_o s ∧ zW_q s
def zX (s : zS) (M : mm_M) : Prop := zX_p s M ∧ zX_l s M ∧ zX_k s M ∧ zX_w s M ∧ zX_t s M ∧ zX_d s M ∧ zX_o s M ∧ zX_q s M
def zR (s : zS) (M : mm_M) : Prop := zR_p s M ∧ zR_l s M ∧ zR_k s M ∧ zR_w s M ∧ zR_t s M ∧ zR_d s M ∧ zR_o s M ∧ zR_q s M
theorem zcv {f : Nat → Int32} {g : Nat → Nat} {n j k : Nat} (h : ∀ j, j < n → f j = nI (g j)) (e : j = k) (hk : k < n) : f j = nI (g k) := by rw [e]; exact h k hk
theorem zmaxI {a b : Nat} (ha : a < 2 ^ 31) (hb : b < 2 ^ 31) : (if nI a < nI b then nI b else nI a) = nI (max a b) := by
  by_cases h : a < b
  · rw [if_pos (nI_lt h hb), Nat.max_eq_right (by omega)]
  · rw [if_neg (nI_nlt (by omega) ha), Nat.max_eq_left (by omega)]
/-! bits -/
theorem nI_bv (n : Nat) : (nI n).toBitVec = BitVec.ofNat 32 n := rfl
theorem nI_and (a b : Nat) : nI a &&& nI b = nI (a &&& b) := by
  apply Int32.toBitVec_inj.mp
  show (nI a).toBitVec &&& (nI b).toBitVec = _
  rw [nI_bv, nI_bv, nI_bv, BitVec.ofNat_and]
theorem nI_xm1 {a : Nat} (h : a < 256) {b : Nat} (hb : b < 256) : nI b &&& (nI a ^^^ (-1)) = nI (z_no b a) := by
  apply Int32.toBitVec_inj.mp
  show (nI b).toBitVec &&& ((nI a).toBitVec ^^^ (-1 : Int32).toBitVec) = (nI (z_no b a)).toBitVec
  rw [nI_bv, nI_bv, nI_bv, z_no]
  apply BitVec.eq_of_toNat_eq
  rw [BitVec.toNat_and, BitVec.toNat_xor, BitVec.toNat_ofNat, BitVec.toNat_ofNat, BitVec.toNat_ofNat]
  have e : ((-1 : Int32).toBitVec).toNat = 4294967295 := by decide
  rw [e, Nat.mod_eq_of_lt (show a < 2 ^ 32 by omega), Nat.mod_eq_of_lt (show b < 2 ^ 32 by omega)]
  have h1 : b &&& (255 ^^^ a) < 2 ^ 32 := Nat.lt_of_le_of_lt Nat.and_le_left (by omega)
  rw [Nat.mod_eq_of_lt h1]
  apply Nat.eq_of_testBit_eq
  intro i
  rw [Nat.testBit_and, Nat.testBit_and, Nat.testBit_xor, Nat.testBit_xor]
  by_cases hi : i < 8
  · have q1 : Nat.testBit 4294967295 i = true := by
      rcases (show i = 0 ∨ i = 1 ∨ i = 2 ∨ i = 3 ∨ i = 4 ∨ i = 5 ∨ i = 6 ∨ i = 7 by omega) with r | r | r | r | r | r | r | r <;> subst r <;> decide
    have q2 : Nat.testBit 255 i = true := by
      rcases (show i = 0 ∨ i = 1 ∨ i = 2 ∨ i = 3 ∨ i = 4 ∨ i = 5 ∨ i = 6 ∨ i = 7 by omega) with r | r | r | r | r | r | r | r <;> subst r <;> decide
    rw [q1, q2]; cases a.testBit i <;> rfl
  · have q : b.testBit i = false := Nat.testBit_lt_two_pow (Nat.lt_of_lt_of_le hb (show 2 ^ 8 ≤ 2 ^ i from Nat.pow_le_pow_right (by decide) (by omega)))
    rw [q]; rfl
theorem z_no_le (b a : Nat) : z_no b a ≤ b := Nat.and_le_left
theorem zsh_u : ∀ t, t < 32 → (((nI t).toUInt32 &&& Int32.toUInt32 31).toBitVec % 32).toNat = t := by decide +kernel
theorem zsh_s : ∀ t, t < 32 → ((nI t &&& 31).toBitVec.smod 32).toNat = t := by decide +kernel
theorem nI_ushr {n t : Nat} (hn : n < 2 ^ 32) (ht : t < 32) : ((nI n).toUInt32 >>> ((nI t).toUInt32 &&& Int32.toUInt32 31)).toInt32 = nI (n / 2 ^ t) := pk_ushrN hn (nI t) t (zsh_u t ht)
theorem nI_and1 {n : Nat} (h : n < 2 ^ 32) : nI n &&& nI 1 = nI (n % 2) := pk_andN h 1 (by decide)
theorem nI_shl1 {t : Nat} (ht : t < 31) : nI 1 <<< (nI t &&& 31) = nI (2 ^ t) := by
  have h := pk_shlN (n := 1) (nI t &&& 31) t (zsh_s t (by omega)) (by rw [Nat.one_mul]; exact Nat.pow_lt_pow_right (by decide) (by omega))
  rw [h, Nat.one_mul]
theorem nI_shr {n t : Nat} (hn : n < 2 ^ 31) (ht : t < 32) : nI n >>> (nI t &&& 31) = nI (n / 2 ^ t) := pk_shrN hn (nI t &&& 31) t (zsh_s t ht)
theorem zbit (S t : Nat) : S.testBit t = decide (S / 2 ^ t % 2 = 1) := Nat.testBit_eq_decide_div_mod_eq
theorem zpow8 {n : Nat} (h : n ≤ 8) : 2 ^ n ≤ 256 := Nat.pow_le_pow_right (n := 2) (by decide) h
/-- isPart: nothing is left behind the shift -/
theorem zpart {x : Int32} {n : Nat} (hn : n ≤ 8) : (x.toUInt32 >>> ((nI n).toUInt32 &&& Int32.toUInt32 31)).toInt32 = 0 ↔ zin x (2 ^ n) = true := by
  have h := pk_ushr x (nI n) n (zsh_u n (by omega))
  have hp := zpow8 hn
  have hpos : 0 < 2 ^ n := Nat.two_pow_pos n
  have key : (x.toUInt32 >>> ((nI n).toUInt32 &&& Int32.toUInt32 31)).toInt32 = 0 ↔ x.toBitVec.toNat < 2 ^ n := by
    rw [← Int32.toBitVec_inj, ← BitVec.toNat_inj, h]
    show x.toBitVec.toNat / 2 ^ n = 0 ↔ _
    rw [Nat.div_eq_zero_iff]; omega
  rw [key]
  rcases zcase x (2 ^ n) with q | ⟨j, a, b, rfl⟩ | ⟨j, a, b, rfl⟩
  · rw [zin_neg q]
    rw [Int32.lt_iff_toInt_lt, Int32.toInt_zero] at q
    have e : x.toInt = x.toBitVec.toInt := rfl
    rw [e, BitVec.toInt_eq_toNat_cond] at q
    have := x.toBitVec.isLt
    simp only [Bool.false_eq_true, iff_false]
    split at q <;> omega
  · rw [zin_t a (by omega), pk_tn (by omega)]; simp [a]
  · rw [zin_f a b, pk_tn (by omega)]; simp; exact a
/-! long draws -/
theorem lN_land {x : Nat} (h : x < 2 ^ 63) : lN x &&& lN 2147483647 = lN (x % 2147483648) := by
  apply Int64.toBitVec_inj.mp
  show (lN x).toBitVec &&& (lN 2147483647).toBitVec = (lN (x % 2147483648)).toBitVec
  show BitVec.ofNat 64 x &&& BitVec.ofNat 64 2147483647 = BitVec.ofNat 64 (x % 2147483648)
  rw [← BitVec.ofNat_and]
  congr 1
  exact Nat.and_two_pow_sub_one_eq_mod x 31
def z_sd (d : Nat) : Nat := (d * 1103515245 + 12345) % 2147483648
def z_dv (d : Nat) : Nat := d / 65536 % 100
theorem z_sd_lt (d : Nat) : z_sd d < 2 ^ 31 := Nat.mod_lt _ (by decide)
theorem z_dv_lt (d : Nat) : z_dv d < 100 := Nat.mod_lt _ (by decide)
def z_go (s : zS) (p : Nat) : Nat := max (s 12 (3 * p)) (max (s 12 (3 * p + 1)) (s 12 (3 * p + 2)))
