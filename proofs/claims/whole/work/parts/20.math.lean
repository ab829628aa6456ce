/-! numbers behind the tables: s 0: [pictures, lookers, looks, seed, bytes, rounds, things, fault]; 1 kinds, 2 far, 3 depth, 4 known, 5 mirror (0: none, else its picture and 1), 6 sorts, 7 who, 8 what, 9 answer, 10 laws, 11 text, 12 odds, 13 tables, 14 sky, 15 weights, 16 questions -/
abbrev zS : Type := Nat → Nat → Nat
def zset (s : zS) (c : Nat) (r : Nat → Nat) : zS := fun a => if a = c then r else s a
def zup (f : Nat → Nat) (k v : Nat) : Nat → Nat := fun j => if j = k then v else f j
theorem zup_s {f : Nat → Nat} {k v : Nat} : zup f k v k = v := if_pos rfl
theorem zup_n {f : Nat → Nat} {k v j : Nat} (h : j ≠ k) : zup f k v j = f j := if_neg h
theorem zset_s {s : zS} {c : Nat} {r : Nat → Nat} : zset s c r c = r := if_pos rfl
theorem zset_n {s : zS} {c d : Nat} {r : Nat → Nat} (h : d ≠ c) : zset s c r d = s d := if_neg h
/-- how many places below n have P -/
def zcnt (P : Nat → Bool) : Nat → Nat
  | 0 => 0
  | n + 1 => zcnt P n + (P n).toNat
theorem zcnt_s (P : Nat → Bool) (n : Nat) : zcnt P (n + 1) = zcnt P n + (P n).toNat := rfl
theorem zcnt_le (P : Nat → Bool) (n : Nat) : zcnt P n ≤ n := by
  induction n with
  | zero => exact Nat.le_refl _
  | succ n ih => have := Bool.toNat_le (P n); rw [zcnt_s]; omega
theorem zcnt_congr {P Q : Nat → Bool} {n : Nat} (h : ∀ k, k < n → P k = Q k) : zcnt P n = zcnt Q n := by
  induction n with
  | zero => rfl
  | succ n ih => rw [zcnt_s, zcnt_s, ih (fun k hk => h k (by omega)), h n (by omega)]
theorem zcnt_mono (P : Nat → Bool) {m n : Nat} (h : m ≤ n) : zcnt P m ≤ zcnt P n := by
  induction n with
  | zero => have : m = 0 := by omega
            subst this; exact Nat.le_refl _
  | succ n ih =>
    rcases Nat.lt_or_ge m (n + 1) with q | q
    · have := ih (by omega); rw [zcnt_s]; omega
    · have : m = n + 1 := by omega
      subst this; exact Nat.le_refl _
def zsum (f : Nat → Nat) : Nat → Nat
  | 0 => 0
  | n + 1 => zsum f n + f n
theorem zsum_s (f : Nat → Nat) (n : Nat) : zsum f (n + 1) = zsum f n + f n := rfl
theorem zsum_congr {f g : Nat → Nat} {n : Nat} (h : ∀ k, k < n → f k = g k) : zsum f n = zsum g n := by
  induction n with
  | zero => rfl
  | succ n ih => rw [zsum_s, zsum_s, ih (fun k hk => h k (by omega)), h n (by omega)]
theorem zsum_le {f : Nat → Nat} {n b : Nat} (h : ∀ k, k < n → f k ≤ b) : zsum f n ≤ n * b := by
  induction n with
  | zero => simp [zsum]
  | succ n ih =>
    have h1 := ih (fun k hk => h k (by omega))
    have h2 := h n (by omega)
    rw [zsum_s, Nat.succ_mul]; omega
/-- the first place below n that has P, and 1; 0: none -/
def zfind (P : Nat → Bool) : Nat → Nat
  | 0 => 0
  | n + 1 => if zfind P n = 0 then (if P n then n + 1 else 0) else zfind P n
theorem zfind_le (P : Nat → Bool) (n : Nat) : zfind P n ≤ n := by
  induction n with
  | zero => exact Nat.le_refl _
  | succ n ih => rw [zfind]; split; split; omega; omega; omega
theorem zfind_0 {P : Nat → Bool} {n : Nat} (h : zfind P n = 0) : ∀ k, k < n → P k = false := by
  induction n with
  | zero => intro k hk; omega
  | succ n ih =>
    rw [zfind] at h
    by_cases h1 : zfind P n = 0
    · rw [if_pos h1] at h
      intro k hk
      rcases Nat.lt_or_ge k n with q | q
      · exact ih h1 k q
      · have e : k = n := by omega
        subst e
        cases hp : P k with
        | false => rfl
        | true => rw [hp] at h; simp at h
    · rw [if_neg h1] at h; exact absurd h h1
theorem zfind_of0 {P : Nat → Bool} {n : Nat} (h : ∀ k, k < n → P k = false) : zfind P n = 0 := by
  induction n with
  | zero => rfl
  | succ n ih => rw [zfind, if_pos (ih (fun k hk => h k (by omega))), h n (by omega)]; rfl
theorem zfind_1 {P : Nat → Bool} {n j : Nat} (h : zfind P n = j + 1) : j < n ∧ P j = true ∧ ∀ k, k < j → P k = false := by
  induction n with
  | zero => exact absurd h (by simp [zfind])
  | succ n ih =>
    rw [zfind] at h
    by_cases h1 : zfind P n = 0
    · rw [if_pos h1] at h
      by_cases hp : P n = true
      · rw [if_pos hp] at h
        have e : j = n := by omega
        subst e
        exact ⟨by omega, hp, zfind_0 h1⟩
      · rw [if_neg hp] at h; exact absurd h (by omega)
    · rw [if_neg h1] at h
      obtain ⟨a, b, c⟩ := ih h
      exact ⟨by omega, b, c⟩
theorem zfind_of {P : Nat → Bool} {n j : Nat} (hj : j < n) (hp : P j = true) (h : ∀ k, k < j → P k = false) : zfind P n = j + 1 := by
  induction n with
  | zero => omega
  | succ n ih =>
    rw [zfind]
    rcases Nat.lt_or_ge j n with q | q
    · have := ih q
      rw [if_neg (by omega), this]
    · have e : j = n := by omega
      subst e
      rw [if_pos (zfind_of0 h), if_pos hp]
theorem zfind_congr {P Q : Nat → Bool} {n : Nat} (h : ∀ k, k < n → P k = Q k) : zfind P n = zfind Q n := by
  induction n with
  | zero => rfl
  | succ n ih => rw [zfind, zfind, ih (fun k hk => h k (by omega)), h n (by omega)]
/-- down to a loop's end -/
theorem jr_up {S : Nat → Prop} {n : Nat} (hx : S n) (hs : ∀ p, p < n → S (p + 1) → S p) : ∀ p, p ≤ n → S p := by
  intro p hp
  obtain ⟨d, hd⟩ : ∃ d, p + d = n := ⟨n - p, by omega⟩
  induction d generalizing p with
  | zero => have e : p = n := by omega
            rw [e]; exact hx
  | succ d ih => exact hs p (by omega) (ih (p + 1) (by omega) (by omega))
theorem jr_dn {S : Nat → Prop} (hx : S 0) (hs : ∀ p, S p → S (p + 1)) : ∀ p, S p := by
  intro p
  induction p with
  | zero => exact hx
  | succ p ih => exact hs p ih
/-- an int as a place -/
def zmv (m : Nat) : Int32 := if m = 0 then -1 else nI (m - 1)
theorem zmv_0 : zmv 0 = -1 := rfl
theorem zmv_s (m : Nat) : zmv (m + 1) = nI m := by simp [zmv]
theorem zcase (x : Int32) (n : Nat) : x < 0 ∨ (∃ j, j < n ∧ j < 2 ^ 31 ∧ x = nI j) ∨ ∃ j, n ≤ j ∧ j < 2 ^ 31 ∧ x = nI j := by
  by_cases h : x < 0
  · exact Or.inl h
  · obtain ⟨j, hj, e⟩ := nI_of h
    rcases Nat.lt_or_ge j n with q | q
    · exact Or.inr (Or.inl ⟨j, q, hj, e⟩)
    · exact Or.inr (Or.inr ⟨j, q, hj, e⟩)
theorem zneg {x : Int32} {n : Nat} (h : x < 0) (hn : n < 2 ^ 31) : x < nI n ∧ ¬ nI n ≤ x ∧ ¬ 0 ≤ x ∧ x ≠ nI n := by
  have h2 := nI_pos' hn
  rw [Int32.lt_iff_toInt_lt] at h ⊢
  rw [Int32.le_iff_toInt_le] at h2 ⊢
  rw [Int32.le_iff_toInt_le]
  refine ⟨by omega, by omega, by omega, fun e => ?_⟩
  rw [e] at h; omega
theorem zm1 : (-1 : Int32) < 0 := by decide
/-! rows over truth values -/
section MB
variable {g : mm_G} {E : mm_E} {i : mm_I} {own : String} {post : Option Value → mm_M → Prop} {pc : Nat} {lv : List (Nat × Value)} {rest : List Value} {M : mm_M}
theorem jr_if_eqZ (hg : mm_Ok g E i own) {b : Bool} {off : Int} {tgt : Nat} (hd : decode i.2.1 pc = .ok (.ifCond .eq off, 3)) (ht : (pc : Int) + off = (tgt : Int)) (kt : b = false → mm_J g E i post tgt lv rest M) (kf : b = true → mm_J g E i post (pc + 3) lv rest M) : mm_J g E i post pc lv (.int (nI b.toNat) :: rest) M := jr_if_eqN hg hd ht (by cases b <;> decide) (fun h => kt (by cases b <;> simp_all)) (fun h => kf (by cases b <;> simp_all))
theorem jr_if_neZ (hg : mm_Ok g E i own) {b : Bool} {off : Int} {tgt : Nat} (hd : decode i.2.1 pc = .ok (.ifCond .ne off, 3)) (ht : (pc : Int) + off = (tgt : Int)) (kt : b = true → mm_J g E i post tgt lv rest M) (kf : b = false → mm_J g E i post (pc + 3) lv rest M) : mm_J g E i post pc lv (.int (nI b.toNat) :: rest) M := jr_if_neN hg hd ht (by cases b <;> decide) (fun h => kt (by cases b <;> simp_all)) (fun h => kf (by cases b <;> simp_all))
theorem z01 (b : Bool) : nI b.toNat = nI 0 ∨ nI b.toNat = nI 1 := by cases b <;> simp
end MB
/-! what the class's and the reference's cells hold -/
def zW_p (s : zS) : Prop := s 0 0 ≤ 24 ∧ ∀ p, p < s 0 0 → s 1 p ≤ 2 ∧ s 2 p ≤ 1 ∧ s 3 p ≤ 9 ∧ s 4 p ≤ 1 ∧ s 5 p ≤ p
def zW_l (s : zS) : Prop := s 0 1 ≤ 8 ∧ ∀ l, l < s 0 1 → s 6 l ≤ 5
/-- the look of a looker at a picture -/
def z_at (s : zS) (l p : Nat) : Nat → Bool := fun k => s 7 k == l && s 8 k == p
def z_of (s : zS) (p : Nat) : Nat → Bool := fun k => s 8 k == p
def z_gr (s : zS) (p : Nat) : Nat → Bool := fun k => s 8 k == p && s 9 k == 3
def z_by (s : zS) (l : Nat) : Nat → Bool := fun k => s 7 k == l
def z_co (s : zS) (k : Nat) : Bool := decide (zcnt (z_of s (s 8 k)) k < 6)
def z_an (s : zS) (l p : Nat) : Nat := let f := zfind (z_at s l p) (s 0 2); if f = 0 then 0 else s 9 (f - 1) + 1
def zW_k (s : zS) : Prop := s 0 2 ≤ 200 ∧ (∀ k, k < s 0 2 → s 7 k < s 0 1 ∧ s 8 k < s 0 0 ∧ s 9 k ≤ 3) ∧ ∀ j k, j < s 0 2 → k < s 0 2 → s 7 j = s 7 k → s 8 j = s 8 k → j = k
def zlo (j : Nat) : Nat := [0, 0, 0, 0, 34, 1, 1, 34].getD j 0
def zhi (j : Nat) : Nat := [100, 100, 100, 99, 99, 8, 9, 99].getD j 0
def zW_w (s : zS) : Prop := ∀ j, j < 8 → zlo j ≤ s 10 j ∧ s 10 j ≤ zhi j
def zW_t (s : zS) : Prop := s 0 4 ≤ 160 ∧ ∀ j, j < s 0 4 → s 11 j < 256
def zW_d (s : zS) : Prop := s 0 3 < 2 ^ 31
def zW_o (s : zS) : Prop := (∀ j, j < 72 → s 12 j ≤ 1000) ∧ (∀ j, j < 96 → 1 ≤ s 13 j ∧ s 13 j ≤ 97) ∧ (∀ j, j < 3 → 1 ≤ s 14 j ∧ s 14 j ≤ 1000) ∧ s 0 5 ≤ 40
def zW_q (s : zS) : Prop := 2 ≤ s 0 6 ∧ s 0 6 ≤ 8 ∧ (∀ t, t < 8 → 1 ≤ s 15 t ∧ s 15 t ≤ 99) ∧ ∀ k, k < 6 → s 16 k < 2 ^ s 0 6
def zX_p (s : zS) (M : mm_M) : Prop := M.1 4 5 = nI (s 0 0) ∧ ∀ p, p < s 0 0 → M.1 20 p = nI (s 1 p) ∧ M.1 21 p = nI (s 2 p) ∧ M.1 22 p = nI (s 3 p) ∧ M.1 24 p = nI (s 4 p) ∧ M.1 23 p = zmv (s 5 p)
def zX_l (s : zS) (M : mm_M) : Prop := M.1 2 1 = nI (s 0 1) ∧ ∀ l, l < s 0 1 → M.1 11 l = nI (s 6 l)
def zX_k (s : zS) (M : mm_M) : Prop := M.1 3 8 = nI (s 0 2) ∧ (∀ k, k < s 0 2 → M.1 12 k = nI (s 7 k) ∧ M.1 13 k = nI (s 8 k) ∧ M.1 14 k = nI (s 9 k) ∧ M.1 15 k = nI (z_co s k).toNat) ∧
  (∀ l p, l < 8 → p < 24 → M.1 16 (l * 24 + p) = zmv (z_an s l p)) ∧ (∀ p, p < 24 → M.1 17 p = nI (zcnt (z_of s p) (s 0 2)) ∧ M.1 18 p = nI (zcnt (z_gr s p) (s 0 2))) ∧ ∀ l, l < 8 → M.1 19 l = nI (zcnt (z_by s l) (s 0 2))
def zX_w (s : zS) (M : mm_M) : Prop := ∀ j, j < 8 → M.1 8 j = nI (s 10 j)
def zX_t (s : zS) (M : mm_M) : Prop := M.1 1 3 = nI (s 0 4) ∧ (∀ j, j < s 0 4 → M.1 10 j = nI (s 11 j)) ∧ M.1 1 6 = zmv (s 0 7)
def zX_d (s : zS) (M : mm_M) : Prop := M.2 0 0 = lN (s 0 3)
def zX_o (s : zS) (M : mm_M) : Prop := (∀ j, j < 72 → M.1 30 j = nI (s 12 j)) ∧ (∀ j, j < 96 → M.1 31 j = nI (s 13 j)) ∧ (∀ j, j < 3 → M.1 32 j = nI (s 14 j)) ∧ M.1 6 6 = nI (s 0 5)
def zR_p (s : zS) (M : mm_M) : Prop := M.1 35 9 = nI (s 0 0) ∧ ∀ p, p < s 0 0 → M.1 39 p = nI (s 1 p) ∧ M.1 40 p = nI (s 2 p) ∧ M.1 41 p = nI (s 3 p) ∧ M.1 42 p = nI (s 4 p) ∧ M.1 43 p = zmv (s 5 p)
def zR_l (s : zS) (M : mm_M) : Prop := M.1 35 15 = nI (s 0 1) ∧ ∀ l, l < s 0 1 → M.1 44 l = nI (s 6 l)
def zR_k (s : zS) (M : mm_M) : Prop := M.1 35 17 = nI (s 0 2) ∧ ∀ k, k < s 0 2 → M.1 45 k = nI (s 7 k) ∧ M.1 46 k = nI (s 8 k) ∧ M.1 47 k = nI (s 9 k)
def zR_w (s : zS) (M : mm_M) : Prop := ∀ j, j < 8 → M.1 36 j = nI (s 10 j)
def zR_t (s : zS) (M : mm_M) : Prop := M.1 35 3 = nI (s 0 4) ∧ (∀ j, j < s 0 4 → M.1 38 j = nI (s 11 j)) ∧ M.1 35 8 = zmv (s 0 7)
def zR_d (s : zS) (M : mm_M) : Prop := M.1 35 21 = nI (s 0 3)
def zR_o (s : zS) (M : mm_M) : Prop := (∀ j, j < 72 → M.1 48 j = nI (s 12 j)) ∧ (∀ j, j < 96 → M.1 49 j = nI (s 13 j)) ∧ (∀ j, j < 3 → M.1 50 j = nI (s 14 j)) ∧ M.1 35 25 = nI (s 0 5)
/-- a number in its bounds -/
def zin (x : Int32) (n : Nat) : Bool := decide (0 ≤ x.toInt ∧ x.toInt < (n : Int))
theorem zin_neg {x : Int32} {n : Nat} (h : x < 0) : zin x n = false := by
  rw [Int32.lt_iff_toInt_lt, Int32.toInt_zero] at h
  exact decide_eq_false (by omega)
theorem zin_nI {j n : Nat} (hj : j < 2 ^ 31) : zin (nI j) n = decide (j < n) := by
  rw [zin, nI_toInt hj]
  by_cases h : j < n
  · rw [decide_eq_true h, decide_eq_true (by omega)]
  · rw [decide_eq_false h, decide_eq_false (by omega)]
theorem zin_t {j n : Nat} (h : j < n) (hn : n < 2 ^ 31) : zin (nI j) n = true := by rw [zin_nI (by omega), decide_eq_true h]
theorem zin_f {j n : Nat} (h : n ≤ j) (hj : j < 2 ^ 31) : zin (nI j) n = false := by rw [zin_nI hj, decide_eq_false (by omega)]
theorem zin_of {x : Int32} {n : Nat} (hn : n < 2 ^ 31) (h : zin x n = true) : ∃ j, j < n ∧ x = nI j := by
  rcases zcase x n with q | ⟨j, a, b, rfl⟩ | ⟨j, a, b, rfl⟩
  · rw [zin_neg q] at h; cases h
  · exact ⟨j, a, rfl⟩
  · rw [zin_f a b] at h; cases h
theorem zin_no {x : Int32} {n : Nat} (h : zin x n = false) : x < 0 ∨ ∃ j, n ≤ j ∧ j < 2 ^ 31 ∧ x = nI j := by
  rcases zcase x n with q | ⟨j, a, b, rfl⟩ | ⟨j, a, b, rfl⟩
  · exact Or.inl q
  · rw [zin_nI b, decide_eq_true a] at h; cases h
  · exact Or.inr ⟨j, a, b, rfl⟩
theorem zlt_nle {x y : Int32} (h : x < y) : ¬ y ≤ x := by
  rw [Int32.lt_iff_toInt_lt] at h
  rw [Int32.le_iff_toInt_le]; omega
theorem znlt_le {x y : Int32} (h : ¬ x < y) : y ≤ x := by
  rw [Int32.lt_iff_toInt_lt] at h
  rw [Int32.le_iff_toInt_le]; omega
theorem zmv_m1 {m : Nat} (h : m < 2 ^ 31) : zmv m = -1 ↔ m = 0 := by
  cases m with
  | zero => simp [zmv]
  | succ m =>
    rw [zmv_s]
    refine ⟨fun e => ?_, fun e => by omega⟩
    have := nI_pos (n := m) (by omega)
    rw [e] at this
    exact absurd zm1 this
theorem zW_mo {s : zS} (h : zW_p s) {p : Nat} (hp : p < s 0 0) : s 5 p < 2 ^ 31 := by
  have := (h.2 p hp).2.2.2.2; have := h.1; omega
def z_mi (s : zS) : Nat → Bool := fun p => s 5 p != 0
