/-! what each call answers and what becomes of the numbers -/
def zn (x : Int32) : Nat := x.toInt.toNat
theorem zn_nI {j : Nat} (h : j < 2 ^ 31) : zn (nI j) = j := by rw [zn, nI_toInt h]; rfl
def zwi (lo hi : Nat) (x : Int32) : Bool := decide ((lo : Int) ≤ x.toInt ∧ x.toInt ≤ (hi : Int))
theorem zwi_of {lo hi : Nat} {x : Int32} (hh : hi < 2 ^ 31) (h : zwi lo hi x = true) : ∃ j, lo ≤ j ∧ j ≤ hi ∧ x = nI j := by
  have h := of_decide_eq_true h
  rcases zcase x (hi + 1) with q | ⟨j, a, b, rfl⟩ | ⟨j, a, b, rfl⟩
  · rw [Int32.lt_iff_toInt_lt, Int32.toInt_zero] at q; omega
  · rw [nI_toInt b] at h; exact ⟨j, by omega, by omega, rfl⟩
  · rw [nI_toInt b] at h; omega
theorem zwi_le {lo hi : Nat} (hl : lo < 2 ^ 31) (hh : hi < 2 ^ 31) (x : Int32) : decide (nI lo ≤ x ∧ x ≤ nI hi) = zwi lo hi x := by
  rw [zwi]
  exact decide_eq_decide.mpr (by rw [Int32.le_iff_toInt_le, Int32.le_iff_toInt_le, nI_toInt hl, nI_toInt hh])
theorem zwi_t {lo hi j : Nat} (h1 : lo ≤ j) (h2 : j ≤ hi) (hh : hi < 2 ^ 31) : zwi lo hi (nI j) = true := by
  rw [zwi, nI_toInt (by omega)]; exact decide_eq_true (by omega)
theorem zneg_ti {x : Int32} (h : x < 0) : x.toInt < 0 := by rw [Int32.lt_iff_toInt_lt, Int32.toInt_zero] at h; exact h
def zq_picture (s : zS) (k f d : Int32) (b : Nat) : Int32 × zS :=
  if zin k 3 && (zin f 2 && zin d 10) then (if s 0 0 < 24 then (nI (s 0 0), zaddp s (zn k) (zn f) (zn d) b 0) else (-1004, s)) else (-1002, s)
def z_tu (k : Nat) : Nat := if k = 0 then 0 else 3 - k
def zq_mirror (s : zS) (p : Int32) : Int32 × zS :=
  if zin p (s 0 0) then (if s 5 (zn p) = 0 then (if s 0 0 < 24 then (nI (s 0 0), zaddp s (z_tu (s 1 (zn p))) (s 2 (zn p)) (s 3 (zn p)) 0 (zn p + 1)) else (-1004, s)) else (-1003, s)) else (-1001, s)
def zq_looker (s : zS) (x : Int32) : Int32 × zS := if zin x 6 then (if s 0 1 < 8 then (nI (s 0 1), zaddl s (zn x)) else (-1004, s)) else (-1002, s)
def zq_law (s : zS) (x : Int32) : Int32 × zS := if zin x 8 then (nI (s 10 (zn x)), s) else (-1002, s)
def z_count (s : zS) : Nat → Nat
  | 0 => s 0 0
  | 1 => s 0 1
  | 2 => s 0 2
  | 3 => zsum (s 4) (s 0 0)
  | 4 => zcnt (z_mi s) (s 0 0)
  | 5 => zcnt (z_dn s) (s 0 0)
  | 6 => s 0 4
  | 7 => zcnt (z_st s) (s 0 1)
  | _ => s 0 5
def zq_count (s : zS) (x : Int32) : Int32 × zS := if zin x 9 then (nI (z_count s (zn x)), s) else (-1002, s)
def z_told (s : zS) (p : Nat) : Nat → Int32
  | 0 => nI (s 1 p)
  | 1 => nI (s 2 p)
  | 2 => nI (s 3 p)
  | 3 => nI (s 4 p)
  | 4 => zmv (s 5 p)
  | 5 => nI (zcnt (z_of s p) (s 0 2))
  | 6 => nI (zcnt (z_gr s p) (s 0 2))
  | _ => nI (z_dn s p).toNat
def zq_told (s : zS) (p w : Int32) : Int32 × zS := if zin p (s 0 0) then (if zin w 8 then (z_told s (zn p) (zn w), s) else (-1002, s)) else (-1001, s)
def zq_seed (s : zS) (v : Int32) : Int32 × zS := if v < 0 then (-1002, s) else (nI (s 0 3), zseed s (zn v))
def zq_look (s : zS) (l p a : Int32) : Int32 × zS :=
  if zin l (s 0 1) && zin p (s 0 0) then (if zin a 4 then (if z_an s (zn l) (zn p) = 0 then (if s 0 2 < 200 then (nI (s 0 2), zaddk s (zn l) (zn p) (zn a)) else (-1004, s)) else (-1003, s)) else (-1002, s)) else (-1001, s)
def zq_says (s : zS) (l p : Int32) : Int32 × zS :=
  if zin l (s 0 1) && zin p (s 0 0) then (if z_an s (zn l) (zn p) = 0 then (if s 0 2 < 200 then (nI (z_said s (zn l) (zn p) (s 0 3)).1, zlook s (zn l) (zn p)) else (-1004, s)) else (-1003, s)) else (-1001, s)
def z_about (s : zS) (k : Nat) : Nat → Nat
  | 0 => s 7 k
  | 1 => s 8 k
  | 2 => s 9 k
  | _ => (z_co s k).toNat
def zq_about (s : zS) (k w : Int32) : Int32 × zS := if zin k (s 0 2) then (if zin w 4 then (nI (z_about s (zn k) (zn w)), s) else (-1002, s)) else (-1001, s)
def zq_next (s : zS) (l r : Int32) : Int32 × zS := if zin l (s 0 1) then (if zin r 3 then (zmv (z_nx s (zn l) (zn r) (s 0 0)), s) else (-1002, s)) else (-1001, s)
def zq_evening (s : zS) (S n r : Int32) : Int32 × zS :=
  if zin S (2 ^ s 0 1) then (if zwi 1 20 n && zin r 3 then (nI (z_ev s (zn S) (zn r) (zn n) 0 2 - s 0 2), z_ev s (zn S) (zn r) (zn n)) else (-1002, s)) else (-1001, s)
def zq_stays (s : zS) (l : Int32) : Int32 × zS := if zin l (s 0 1) then (nI (z_st s (zn l)).toNat, s) else (-1001, s)
def zq_reckon (s : zS) : Int32 × zS := ((z_rk s).2, (z_rk s).1)
def zq_odds (s : zS) (p k : Int32) : Int32 × zS := if zin p (s 0 0) then (if zin k 3 then (nI (s 12 (3 * zn p + zn k)), s) else (-1002, s)) else (-1001, s)
def zq_table (s : zS) (l k a : Int32) : Int32 × zS := if zin l (s 0 1) then (if zin k 3 && zin a 4 then (nI (s 13 (12 * zn l + 4 * zn k + zn a)), s) else (-1002, s)) else (-1001, s)
def zq_sky (s : zS) (k : Int32) : Int32 × zS := if zin k 3 then (nI (s 14 (zn k)), s) else (-1002, s)
def z_far (s : zS) (h k : Nat) : Nat := if k = 0 then z_fs s 0 (s 0 0) - 2 * (z_fs s 0 (s 0 0) * h / 100 / 2) else z_fs s k (s 0 0) + z_fs s 0 (s 0 0) * h / 100 / 2
def zq_far (s : zS) (h k : Int32) : Int32 × zS := if zin h 101 && zin k 3 then (nI (z_far s (zn h) (zn k)), s) else (-1002, s)
def z_pa (s : zS) (l : Nat) : Nat := zcnt (z_mp s l 1 1) (s 0 0) + zcnt (z_mp s l 2 2) (s 0 0) + zcnt (z_mp s l 1 2) (s 0 0) + zcnt (z_mp s l 2 1) (s 0 0)
def z_lean (s : zS) (l w : Nat) : Int32 := if w = 1 then nI (z_pa s l) else if z_pa s l = 0 then -1 else nI 1000 + (nI (zcnt (z_mp s l 1 1) (s 0 0)) - nI (zcnt (z_mp s l 2 2) (s 0 0))) * nI 100 / nI (z_pa s l)
def zq_lean (s : zS) (l w : Int32) : Int32 × zS := if zin l (s 0 1) then (if zin w 2 then (z_lean s (zn l) (zn w), s) else (-1002, s)) else (-1001, s)
def z_agreed (s : zS) (l m : Nat) : Nat → Nat
  | 0 => zcnt (z_al s l m) (s 0 0)
  | 1 => zcnt (z_sh s l m) (s 0 0)
  | _ => (decide (5 ≤ zcnt (z_sh s l m) (s 0 0) ∧ zcnt (z_al s l m) (s 0 0) = zcnt (z_sh s l m) (s 0 0))).toNat
def zq_agreed (s : zS) (l m w : Int32) : Int32 × zS :=
  if zin l (s 0 1) && (zin m (s 0 1) && decide (l ≠ m)) then (if zin w 3 then (nI (z_agreed s (zn l) (zn m) (zn w)), s) else (-1002, s)) else (-1001, s)
def z_gn (s : zS) (i : Nat) : Nat → Bool := fun p => decide (0 < zcnt (z_gr s p) (s 0 2)) && zcnt (z_gt s p) (s 0 0) == i
def zq_green (s : zS) (i : Int32) : Int32 × zS := if i < 0 then (-1002, s) else (zmv (zfind (z_gn s (zn i)) (s 0 0)), s)
def z_given (s : zS) : Nat → Nat
  | 0 => zcnt (z_gv s) (s 0 0)
  | 1 => zcnt (z_go2 s) (s 0 2)
  | _ => zcnt (z_wg s) (s 0 0)
def zq_given (s : zS) (w : Int32) : Int32 × zS := if zin w 3 then (nI (z_given s (zn w)), s) else (-1002, s)
def zthings (s : zS) (n : Nat) : zS := zset (zset (zset s 15 (fun _ => 1)) 16 (fun _ => 0)) 0 (zup (s 0) 6 n)
def zq_things (s : zS) (n : Int32) : Int32 × zS := if zwi 2 8 n then (n, zthings s (zn n)) else (-1002, s)
def zq_weight (s : zS) (t v : Int32) : Int32 × zS := if zin t (s 0 6) && zwi 1 99 v then (nI (s 15 (zn t)), zset s 15 (zup (s 15) (zn t) (zn v))) else (-1002, s)
def zq_question (s : zS) (k S : Int32) : Int32 × zS := if zin k 6 && zin S (2 ^ s 0 6) then (nI (s 16 (zn k)), zset s 16 (zup (s 16) (zn k) (zn S))) else (-1002, s)
def z_tree (s : zS) (S : Nat) : Nat → Int32
  | 0 => nI (z_e (s 15) (s 16) S).1
  | 1 => zmv (z_e (s 15) (s 16) S).2.1
  | _ => nI (z_e (s 15) (s 16) S).2.2
def zq_tree (s : zS) (S w : Int32) : Int32 × zS := if decide (S ≠ 0) && zin S (2 ^ s 0 6) then (if zin w 3 then (z_tree s (zn S) (zn w), s) else (-1002, s)) else (-1002, s)
def zq_wrong (s : zS) (t : Int32) : Int32 × zS := if zin t (s 0 6) then (nI (z_wt (s 15) (s 16) (s 0 6) (zn t)), s) else (-1002, s)
def zq_fault (s : zS) : Int32 × zS := (zmv (s 0 7), s)
/-! the bounds stay -/
theorem zW_p0 {s : zS} {f : Nat → Nat} (h : zW s) (h0 : f 0 = s 0 0) : zW_p (zset s 0 f) := by
  refine ⟨?_, ?_⟩
  · show f 0 ≤ 24
    rw [h0]; exact h.1.1
  · show ∀ p, p < f 0 → _
    rw [h0]; exact h.1.2
theorem zW_picture {s : zS} (h : zW s) (k f d : Int32) {b : Nat} (hb : b ≤ 1) : zW (zq_picture s k f d b).2 := by
  rw [zq_picture]
  by_cases q : (zin k 3 && (zin f 2 && zin d 10)) = true
  · rw [if_pos q]
    by_cases n : s 0 0 < 24
    · rw [if_pos n]
      simp only [Bool.and_eq_true] at q
      obtain ⟨j1, a1, rfl⟩ := zin_of (by decide) q.1
      obtain ⟨j2, a2, rfl⟩ := zin_of (by decide) q.2.1
      obtain ⟨j3, a3, rfl⟩ := zin_of (by decide) q.2.2
      rw [zn_nI (by omega), zn_nI (by omega), zn_nI (by omega)]
      have hp := zW_addp h.1 (k := j1) (f := j2) (d := j3) (kn := b) (m := 0) n (by omega) (by omega) (by omega) hb (by omega)
      exact ⟨hp, h.2.1, ⟨h.2.2.1.1, fun k hk => ⟨(h.2.2.1.2.1 k hk).1, Nat.lt_succ_of_lt (h.2.2.1.2.1 k hk).2.1, (h.2.2.1.2.1 k hk).2.2⟩, h.2.2.1.2.2⟩, h.2.2.2⟩
    · rw [if_neg n]; exact h
  · rw [if_neg q]; exact h
theorem zW_mirror {s : zS} (h : zW s) (p : Int32) : zW (zq_mirror s p).2 := by
  rw [zq_mirror]
  by_cases q : zin p (s 0 0) = true
  · rw [if_pos q]
    have hnp := h.1.1
    obtain ⟨j, a, rfl⟩ := zin_of (by omega) q
    rw [zn_nI (by omega)]
    by_cases m : s 5 j = 0
    · rw [if_pos m]
      by_cases n : s 0 0 < 24
      · rw [if_pos n]
        have hj := h.1.2 j a
        have hp := zW_addp h.1 (k := z_tu (s 1 j)) (f := s 2 j) (d := s 3 j) (kn := 0) (m := j + 1) n (by rw [z_tu]; split <;> omega) hj.2.1 hj.2.2.1 (by decide) (by omega)
        exact ⟨hp, h.2.1, ⟨h.2.2.1.1, fun k hk => ⟨(h.2.2.1.2.1 k hk).1, Nat.lt_succ_of_lt (h.2.2.1.2.1 k hk).2.1, (h.2.2.1.2.1 k hk).2.2⟩, h.2.2.1.2.2⟩, h.2.2.2⟩
      · rw [if_neg n]; exact h
    · rw [if_neg m]; exact h
  · rw [if_neg q]; exact h
theorem zW_looker {s : zS} (h : zW s) (x : Int32) : zW (zq_looker s x).2 := by
  rw [zq_looker]
  by_cases q : zin x 6 = true
  · rw [if_pos q]
    by_cases n : s 0 1 < 8
    · rw [if_pos n]
      obtain ⟨j, a, rfl⟩ := zin_of (by decide) q
      rw [zn_nI (by omega)]
      have hp := zW_addl h.2.1 (k := j) n (by omega)
      exact ⟨h.1, hp, ⟨h.2.2.1.1, fun k hk => ⟨Nat.lt_succ_of_lt (h.2.2.1.2.1 k hk).1, (h.2.2.1.2.1 k hk).2⟩, h.2.2.1.2.2⟩, h.2.2.2⟩
    · rw [if_neg n]; exact h
  · rw [if_neg q]; exact h
theorem zn_lt (v : Int32) : zn v < 2 ^ 31 := by
  have := v.toInt_lt
  rw [zn]; omega
theorem zW_seed {s : zS} (h : zW s) (v : Int32) : zW (zq_seed s v).2 := by
  rw [zq_seed]; split
  · exact h
  · exact ⟨h.1, h.2.1, h.2.2.1, h.2.2.2.1, h.2.2.2.2.1, zn_lt v, h.2.2.2.2.2.2.1, h.2.2.2.2.2.2.2⟩
theorem zW_lookq {s : zS} (h : zW s) (l p a : Int32) : zW (zq_look s l p a).2 := by
  rw [zq_look]
  by_cases q : (zin l (s 0 1) && zin p (s 0 0)) = true
  · rw [if_pos q]
    by_cases q2 : zin a 4 = true
    · rw [if_pos q2]
      simp only [Bool.and_eq_true] at q
      have hnp := h.1.1
      have hnl := h.2.1.1
      obtain ⟨j1, a1, rfl⟩ := zin_of (by omega) q.1
      obtain ⟨j2, a2, rfl⟩ := zin_of (by omega) q.2
      obtain ⟨j3, a3, rfl⟩ := zin_of (by decide) q2
      rw [zn_nI (by omega), zn_nI (by omega), zn_nI (by omega)]
      by_cases m : z_an s j1 j2 = 0
      · rw [if_pos m]
        by_cases n : s 0 2 < 200
        · rw [if_pos n]
          exact ⟨h.1, h.2.1, zW_addk h.2.2.1 n a1 a2 (by omega) m, h.2.2.2⟩
        · rw [if_neg n]; exact h
      · rw [if_neg m]; exact h
    · rw [if_neg q2]; exact h
  · rw [if_neg q]; exact h
theorem zW_says {s : zS} (h : zW s) (l p : Int32) : zW (zq_says s l p).2 := by
  rw [zq_says]
  by_cases q : (zin l (s 0 1) && zin p (s 0 0)) = true
  · rw [if_pos q]
    simp only [Bool.and_eq_true] at q
    have hnp := h.1.1
    have hnl := h.2.1.1
    obtain ⟨j1, a1, rfl⟩ := zin_of (by omega) q.1
    obtain ⟨j2, a2, rfl⟩ := zin_of (by omega) q.2
    rw [zn_nI (by omega), zn_nI (by omega)]
    by_cases m : z_an s j1 j2 = 0
    · rw [if_pos m]
      by_cases n : s 0 2 < 200
      · rw [if_pos n]; exact zW_look h n a1 a2 m
      · rw [if_neg n]; exact h
    · rw [if_neg m]; exact h
  · rw [if_neg q]; exact h
theorem zW_evening {s : zS} (h : zW s) (S n r : Int32) : zW (zq_evening s S n r).2 := by
  rw [zq_evening]; split
  · split
    · exact zW_ev h _ _ _
    · exact h
  · exact h
theorem zW_things {s : zS} (h : zW s) (n : Int32) : zW (zq_things s n).2 := by
  rw [zq_things]
  by_cases q : zwi 2 8 n = true
  · rw [if_pos q]
    obtain ⟨j, a, b, rfl⟩ := zwi_of (by decide) q
    rw [zn_nI (by omega)]
    exact ⟨h.1, h.2.1, h.2.2.1, h.2.2.2.1, h.2.2.2.2.1, h.2.2.2.2.2.1, h.2.2.2.2.2.2.1, ⟨a, b, fun t _ => ⟨Nat.le_refl 1, (show 1 ≤ 99 by decide)⟩, fun k _ => Nat.two_pow_pos _⟩⟩
  · rw [if_neg q]; exact h
theorem zup_cases {P : Nat → Prop} {f : Nat → Nat} {k v j : Nat} (h1 : P v) (h2 : P (f j)) : P (zup f k v j) := by
  rw [zup]; split
  · exact h1
  · exact h2
theorem zW_weight {s : zS} (h : zW s) (t v : Int32) : zW (zq_weight s t v).2 := by
  rw [zq_weight]
  by_cases q : (zin t (s 0 6) && zwi 1 99 v) = true
  · rw [if_pos q]
    simp only [Bool.and_eq_true] at q
    obtain ⟨j, a, b, rfl⟩ := zwi_of (by decide) q.2
    rw [zn_nI (j := j) (by omega)]
    have g := h.2.2.2.2.2.2.2
    exact ⟨h.1, h.2.1, h.2.2.1, h.2.2.2.1, h.2.2.2.2.1, h.2.2.2.2.2.1, h.2.2.2.2.2.2.1, ⟨g.1, g.2.1, fun t0 h0 => zup_cases (P := fun x => 1 ≤ x ∧ x ≤ 99) ⟨a, b⟩ (g.2.2.1 t0 h0), g.2.2.2⟩⟩
  · rw [if_neg q]; exact h
theorem zW_question {s : zS} (h : zW s) (k S : Int32) : zW (zq_question s k S).2 := by
  rw [zq_question]
  by_cases q : (zin k 6 && zin S (2 ^ s 0 6)) = true
  · rw [if_pos q]
    simp only [Bool.and_eq_true] at q
    have g := h.2.2.2.2.2.2.2
    have h8 := zpow8 g.2.1
    obtain ⟨j, a, rfl⟩ := zin_of (by omega) q.2
    rw [zn_nI (j := j) (by omega)]
    exact ⟨h.1, h.2.1, h.2.2.1, h.2.2.2.1, h.2.2.2.2.1, h.2.2.2.2.2.1, h.2.2.2.2.2.2.1, ⟨g.1, g.2.1, g.2.2.1, fun t0 h0 => zup_cases (P := fun x => x < 2 ^ s 0 6) a (g.2.2.2 t0 h0)⟩⟩
  · rw [if_neg q]; exact h
theorem zq_ok {q : Int32 × zS} {a : Int32} {s' : zS} {M' : mm_M} (h : q = (a, s')) (hx : zX s' M') : some (Value.int a) = some (.int q.1) ∧ zX q.2 M' := by subst h; exact ⟨rfl, hx⟩
