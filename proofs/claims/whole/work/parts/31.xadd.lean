/-! one more picture, looker, look -/
def mm_same (cs : List Nat) (M M' : mm_M) : Prop := ∀ d, d ∉ cs → M'.1 d = M.1 d ∧ M'.2 d = M.2 d
theorem mm_same.rf {cs : List Nat} {M : mm_M} : mm_same cs M M := fun _ _ => ⟨rfl, rfl⟩
theorem mm_same.si {cs : List Nat} {M M1 : mm_M} {c : Nat} {r : Nat → Int32} (h : mm_same cs M M1) (hc : c ∈ cs) : mm_same cs M (mm_si M1 c r) := by
  intro d hd
  have hne : d ≠ c := fun e => hd (e ▸ hc)
  exact ⟨(mm_si_o d hne).1.trans (h d hd).1, (mm_si_o d hne).2.trans (h d hd).2⟩
theorem mm_same.sl {cs : List Nat} {M M1 : mm_M} {c : Nat} {r : Nat → Int64} (h : mm_same cs M M1) (hc : c ∈ cs) : mm_same cs M (mm_sl M1 c r) := by
  intro d hd
  have hne : d ≠ c := fun e => hd (e ▸ hc)
  exact ⟨(mm_sl_o d hne).1.trans (h d hd).1, (mm_sl_o d hne).2.trans (h d hd).2⟩
theorem mm_same.tr {cs : List Nat} {M M1 M2 : mm_M} (h : mm_same cs M M1) (h2 : mm_same cs M1 M2) : mm_same cs M M2 := fun d hd => ⟨(h2 d hd).1.trans (h d hd).1, (h2 d hd).2.trans (h d hd).2⟩
theorem mm_same.wk {cs ds : List Nat} {M M1 : mm_M} (h : mm_same cs M M1) (hs : ∀ c, c ∈ cs → c ∈ ds) : mm_same ds M M1 := fun d hd => h d (fun q => hd (hs d q))
theorem upd_s {f : Nat → Int32} {k : Nat} {x : Int32} : upd f k x k = x := if_pos rfl
theorem upd_n {f : Nat → Int32} {k j : Nat} {x : Int32} (h : j ≠ k) : upd f k x j = f j := if_neg h
def zaddp (s : zS) (k f d kn m : Nat) : zS := zset (zset (zset (zset (zset (zset s 1 (zup (s 1) (s 0 0) k)) 2 (zup (s 2) (s 0 0) f)) 3 (zup (s 3) (s 0 0) d)) 4 (zup (s 4) (s 0 0) kn)) 5 (zup (s 5) (s 0 0) m)) 0 (zup (s 0) 0 (s 0 0 + 1))
def zaddl (s : zS) (k : Nat) : zS := zset (zset s 6 (zup (s 6) (s 0 1) k)) 0 (zup (s 0) 1 (s 0 1 + 1))
def zaddk (s : zS) (l p a : Nat) : zS := zset (zset (zset (zset s 7 (zup (s 7) (s 0 2) l)) 8 (zup (s 8) (s 0 2) p)) 9 (zup (s 9) (s 0 2) a)) 0 (zup (s 0) 2 (s 0 2 + 1))
theorem zX_addp {s : zS} {M : mm_M} (hR : zX_p s M) (k f d kn m : Nat) : zX_p (zaddp s k f d kn m) (mm_si (mm_si (mm_si (mm_si (mm_si (mm_si M 20 (upd (M.1 20) (s 0 0) (nI k))) 21 (upd (M.1 21) (s 0 0) (nI f))) 22 (upd (M.1 22) (s 0 0) (nI d))) 24 (upd (M.1 24) (s 0 0) (nI kn))) 23 (upd (M.1 23) (s 0 0) (zmv m))) 4 (upd (M.1 4) 5 (nI (s 0 0 + 1)))) := by
  refine ⟨rfl, fun p hp => ?_⟩
  have hp : p < s 0 0 + 1 := hp
  show upd (M.1 20) (s 0 0) (nI k) p = nI (zup (s 1) (s 0 0) k p) ∧ upd (M.1 21) (s 0 0) (nI f) p = nI (zup (s 2) (s 0 0) f p) ∧ upd (M.1 22) (s 0 0) (nI d) p = nI (zup (s 3) (s 0 0) d p) ∧ upd (M.1 24) (s 0 0) (nI kn) p = nI (zup (s 4) (s 0 0) kn p) ∧ upd (M.1 23) (s 0 0) (zmv m) p = zmv (zup (s 5) (s 0 0) m p)
  by_cases e : p = s 0 0
  · rw [e, upd_s, upd_s, upd_s, upd_s, upd_s, zup_s, zup_s, zup_s, zup_s, zup_s]
    exact ⟨rfl, rfl, rfl, rfl, rfl⟩
  · rw [upd_n e, upd_n e, upd_n e, upd_n e, upd_n e, zup_n e, zup_n e, zup_n e, zup_n e, zup_n e]
    exact hR.2 p (by omega)
theorem zW_addp {s : zS} (hW : zW_p s) {k f d kn m : Nat} (h : s 0 0 < 24) (h1 : k ≤ 2) (h2 : f ≤ 1) (h3 : d ≤ 9) (h4 : kn ≤ 1) (h5 : m ≤ s 0 0) : zW_p (zaddp s k f d kn m) := by
  refine ⟨by show s 0 0 + 1 ≤ 24; omega, fun p hp => ?_⟩
  have hp : p < s 0 0 + 1 := hp
  show zup (s 1) (s 0 0) k p ≤ 2 ∧ zup (s 2) (s 0 0) f p ≤ 1 ∧ zup (s 3) (s 0 0) d p ≤ 9 ∧ zup (s 4) (s 0 0) kn p ≤ 1 ∧ zup (s 5) (s 0 0) m p ≤ p
  by_cases e : p = s 0 0
  · rw [e, zup_s, zup_s, zup_s, zup_s, zup_s]; exact ⟨h1, h2, h3, h4, h5⟩
  · rw [zup_n e, zup_n e, zup_n e, zup_n e, zup_n e]; exact hW.2 p (by omega)
theorem zX_addl {s : zS} {M : mm_M} (hR : zX_l s M) (k : Nat) : zX_l (zaddl s k) (mm_si (mm_si M 11 (upd (M.1 11) (s 0 1) (nI k))) 2 (upd (M.1 2) 1 (nI (s 0 1 + 1)))) := by
  refine ⟨rfl, fun p hp => ?_⟩
  have hp : p < s 0 1 + 1 := hp
  show upd (M.1 11) (s 0 1) (nI k) p = nI (zup (s 6) (s 0 1) k p)
  by_cases e : p = s 0 1
  · rw [e, upd_s, zup_s]
  · rw [upd_n e, zup_n e]; exact hR.2 p (by omega)
theorem zW_addl {s : zS} (hW : zW_l s) {k : Nat} (h : s 0 1 < 8) (h1 : k ≤ 5) : zW_l (zaddl s k) := by
  refine ⟨by show s 0 1 + 1 ≤ 8; omega, fun p hp => ?_⟩
  have hp : p < s 0 1 + 1 := hp
  show zup (s 6) (s 0 1) k p ≤ 5
  by_cases e : p = s 0 1
  · rw [e, zup_s]; exact h1
  · rw [zup_n e]; exact hW.2 p (by omega)
theorem zaddk_of {s : zS} {l p a q k : Nat} (h : k < s 0 2) : z_of (zaddk s l p a) q k = z_of s q k := by
  show (zup (s 8) (s 0 2) p k == q) = (s 8 k == q)
  rw [zup_n (by omega)]
theorem zaddk_of_n {s : zS} {l p a q : Nat} : z_of (zaddk s l p a) q (s 0 2) = (p == q) := by
  show (zup (s 8) (s 0 2) p (s 0 2) == q) = (p == q)
  rw [zup_s]
theorem zaddk_gr {s : zS} {l p a q k : Nat} (h : k < s 0 2) : z_gr (zaddk s l p a) q k = z_gr s q k := by
  show (zup (s 8) (s 0 2) p k == q && zup (s 9) (s 0 2) a k == 3) = (s 8 k == q && s 9 k == 3)
  rw [zup_n (by omega), zup_n (by omega)]
theorem zaddk_gr_n {s : zS} {l p a q : Nat} : z_gr (zaddk s l p a) q (s 0 2) = (p == q && a == 3) := by
  show (zup (s 8) (s 0 2) p (s 0 2) == q && zup (s 9) (s 0 2) a (s 0 2) == 3) = _
  rw [zup_s, zup_s]
theorem zaddk_by {s : zS} {l p a q k : Nat} (h : k < s 0 2) : z_by (zaddk s l p a) q k = z_by s q k := by
  show (zup (s 7) (s 0 2) l k == q) = (s 7 k == q)
  rw [zup_n (by omega)]
theorem zaddk_by_n {s : zS} {l p a q : Nat} : z_by (zaddk s l p a) q (s 0 2) = (l == q) := by
  show (zup (s 7) (s 0 2) l (s 0 2) == q) = (l == q)
  rw [zup_s]
theorem zaddk_at {s : zS} {l p a u v k : Nat} (h : k < s 0 2) : z_at (zaddk s l p a) u v k = z_at s u v k := by
  show (zup (s 7) (s 0 2) l k == u && zup (s 8) (s 0 2) p k == v) = (s 7 k == u && s 8 k == v)
  rw [zup_n (by omega), zup_n (by omega)]
theorem zaddk_at_n {s : zS} {l p a u v : Nat} : z_at (zaddk s l p a) u v (s 0 2) = (l == u && p == v) := by
  show (zup (s 7) (s 0 2) l (s 0 2) == u && zup (s 8) (s 0 2) p (s 0 2) == v) = _
  rw [zup_s, zup_s]
theorem zaddk_co {s : zS} {l p a k : Nat} (h : k < s 0 2) : z_co (zaddk s l p a) k = z_co s k := by
  show decide (zcnt (z_of (zaddk s l p a) (zup (s 8) (s 0 2) p k)) k < 6) = decide (zcnt (z_of s (s 8 k)) k < 6)
  rw [zup_n (by omega), zcnt_congr (fun j hj => zaddk_of (q := s 8 k) (show j < s 0 2 by omega))]
theorem zaddk_co_n {s : zS} {l p a : Nat} : z_co (zaddk s l p a) (s 0 2) = decide (zcnt (z_of s p) (s 0 2) < 6) := by
  show decide (zcnt (z_of (zaddk s l p a) (zup (s 8) (s 0 2) p (s 0 2))) (s 0 2) < 6) = _
  rw [zup_s, zcnt_congr (fun j hj => zaddk_of (q := p) hj)]
theorem zaddk_an {s : zS} {l p a u v : Nat} (h0 : z_an s l p = 0) : z_an (zaddk s l p a) u v = if u = l ∧ v = p then a + 1 else z_an s u v := by
  have hz : zfind (z_at s l p) (s 0 2) = 0 := by
    by_cases e : zfind (z_at s l p) (s 0 2) = 0
    · exact e
    · simp [z_an, e] at h0
  have hn : zfind (z_at (zaddk s l p a) u v) (s 0 2 + 1) = if zfind (z_at s u v) (s 0 2) = 0 then (if (l == u && p == v) = true then s 0 2 + 1 else 0) else zfind (z_at s u v) (s 0 2) := by
    rw [zfind, zfind_congr (fun k hk => zaddk_at (l := l) (p := p) (a := a) (u := u) (v := v) hk), zaddk_at_n]
  show (let f := zfind (z_at (zaddk s l p a) u v) (s 0 2 + 1); if f = 0 then 0 else zup (s 9) (s 0 2) a (f - 1) + 1) = _
  rw [hn]
  by_cases e : u = l ∧ v = p
  · obtain ⟨rfl, rfl⟩ := e
    simp [hz, zup_s]
  · rw [if_neg e]
    have hb : (l == u && p == v) = false := by
      rcases Decidable.em (l = u) with q | q
      · have : p ≠ v := fun q2 => e ⟨q.symm, q2.symm⟩
        simp [this]
      · simp [q]
    rw [hb]
    have hle := zfind_le (z_at s u v) (s 0 2)
    by_cases e2 : zfind (z_at s u v) (s 0 2) = 0
    · simp [z_an, e2]
    · simp only [if_neg e2, z_an]
      rw [zup_n (by omega)]
def zaddkM (s : zS) (M : mm_M) (l p a : Nat) (c : Int32) (g : Nat) : mm_M := mm_si (mm_si (mm_si (mm_si (mm_si (mm_si (mm_si (mm_si (mm_si M 12 (upd (M.1 12) (s 0 2) (nI l))) 13 (upd (M.1 13) (s 0 2) (nI p))) 14 (upd (M.1 14) (s 0 2) (nI a))) 15 (upd (M.1 15) (s 0 2) c)) 16 (upd (M.1 16) (l * 24 + p) (nI a))) 17 (upd (M.1 17) p (nI (zcnt (z_of s p) (s 0 2) + 1)))) 18 (upd (M.1 18) p (nI g))) 19 (upd (M.1 19) l (nI (zcnt (z_by s l) (s 0 2) + 1)))) 3 (upd (M.1 3) 8 (nI (s 0 2 + 1)))
theorem zaddkM_same {s : zS} {M : mm_M} {l p a : Nat} {c : Int32} {g : Nat} : mm_same [3, 12, 13, 14, 15, 16, 17, 18, 19] M (zaddkM s M l p a c g) :=
  ((((((((mm_same.rf.si (by decide)).si (by decide)).si (by decide)).si (by decide)).si (by decide)).si (by decide)).si (by decide)).si (by decide)).si (by decide)
theorem zX_addk {s : zS} {M : mm_M} (hR : zX_k s M) {l p a : Nat} (hl : l < 8) (hp : p < 24) (h0 : z_an s l p = 0) {c : Int32} {g : Nat} (hc : c = nI (decide (zcnt (z_of s p) (s 0 2) < 6)).toNat) (hg : g = zcnt (z_gr s p) (s 0 2) + (a == 3).toNat) : zX_k (zaddk s l p a) (zaddkM s M l p a c g) := by
  obtain ⟨h1, h2, h3, h4, h5⟩ := hR
  refine ⟨rfl, fun k hk => ?_, fun u v hu hv => ?_, fun q hq => ?_, fun q hq => ?_⟩
  · have hk : k < s 0 2 + 1 := hk
    show upd (M.1 12) (s 0 2) (nI l) k = nI (zup (s 7) (s 0 2) l k) ∧ upd (M.1 13) (s 0 2) (nI p) k = nI (zup (s 8) (s 0 2) p k) ∧ upd (M.1 14) (s 0 2) (nI a) k = nI (zup (s 9) (s 0 2) a k) ∧ upd (M.1 15) (s 0 2) c k = nI (z_co (zaddk s l p a) k).toNat
    by_cases e : k = s 0 2
    · rw [e, upd_s, upd_s, upd_s, upd_s, zup_s, zup_s, zup_s, zaddk_co_n]
      exact ⟨rfl, rfl, rfl, hc⟩
    · rw [upd_n e, upd_n e, upd_n e, upd_n e, zup_n e, zup_n e, zup_n e, zaddk_co (by omega)]
      exact h2 k (by omega)
  · show upd (M.1 16) (l * 24 + p) (nI a) (u * 24 + v) = zmv (z_an (zaddk s l p a) u v)
    rw [zaddk_an h0]
    by_cases e : u = l ∧ v = p
    · obtain ⟨rfl, rfl⟩ := e
      rw [upd_s, if_pos ⟨rfl, rfl⟩, zmv_s]
    · rw [if_neg e, upd_n (by omega)]
      exact h3 u v hu hv
  · show upd (M.1 17) p (nI (zcnt (z_of s p) (s 0 2) + 1)) q = nI (zcnt (z_of (zaddk s l p a) q) (s 0 2 + 1)) ∧ upd (M.1 18) p (nI g) q = nI (zcnt (z_gr (zaddk s l p a) q) (s 0 2 + 1))
    rw [zcnt_s, zcnt_s, zcnt_congr (fun k hk => zaddk_of (q := q) hk), zcnt_congr (fun k hk => zaddk_gr (q := q) hk), zaddk_of_n, zaddk_gr_n]
    by_cases e : q = p
    · subst e
      rw [upd_s, upd_s, hg]; simp
    · rw [upd_n e, upd_n e]
      have e2 : (p == q) = false := by simp [Ne.symm e]
      rw [e2]
      exact h4 q hq
  · show upd (M.1 19) l (nI (zcnt (z_by s l) (s 0 2) + 1)) q = nI (zcnt (z_by (zaddk s l p a) q) (s 0 2 + 1))
    rw [zcnt_s, zcnt_congr (fun k hk => zaddk_by (q := q) hk), zaddk_by_n]
    by_cases e : q = l
    · subst e
      rw [upd_s]; simp
    · rw [upd_n e]
      have e2 : (l == q) = false := by simp [Ne.symm e]
      rw [e2]
      exact h5 q hq
theorem z_an0 {s : zS} {l p : Nat} : z_an s l p = 0 ↔ ∀ k, k < s 0 2 → ¬ (s 7 k = l ∧ s 8 k = p) := by
  refine ⟨fun h k hk q => ?_, fun h => ?_⟩
  · have hz : zfind (z_at s l p) (s 0 2) = 0 := by
      by_cases e : zfind (z_at s l p) (s 0 2) = 0
      · exact e
      · simp [z_an, e] at h
    have := zfind_0 hz k hk
    simp [z_at, q.1, q.2] at this
  · have hz : zfind (z_at s l p) (s 0 2) = 0 := zfind_of0 (fun k hk => by
      have := h k hk
      rcases Decidable.em (s 7 k = l) with q | q
      · have q2 : s 8 k ≠ p := fun z => this ⟨q, z⟩
        simp [z_at, q2]
      · simp [z_at, q])
    simp [z_an, hz]
theorem zW_addk {s : zS} (hW : zW_k s) {l p a : Nat} (h : s 0 2 < 200) (hl : l < s 0 1) (hp : p < s 0 0) (ha : a ≤ 3) (h0 : z_an s l p = 0) : zW_k (zaddk s l p a) := by
  have h0 := z_an0.mp h0
  refine ⟨by show s 0 2 + 1 ≤ 200; omega, fun k hk => ?_, fun j k hj hk e1 e2 => ?_⟩
  · have hk : k < s 0 2 + 1 := hk
    show zup (s 7) (s 0 2) l k < s 0 1 ∧ zup (s 8) (s 0 2) p k < s 0 0 ∧ zup (s 9) (s 0 2) a k ≤ 3
    by_cases e : k = s 0 2
    · rw [e, zup_s, zup_s, zup_s]; exact ⟨hl, hp, ha⟩
    · rw [zup_n e, zup_n e, zup_n e]; exact hW.2.1 k (by omega)
  · have hj : j < s 0 2 + 1 := hj
    have hk : k < s 0 2 + 1 := hk
    have e1 : zup (s 7) (s 0 2) l j = zup (s 7) (s 0 2) l k := e1
    have e2 : zup (s 8) (s 0 2) p j = zup (s 8) (s 0 2) p k := e2
    by_cases u : j = s 0 2 <;> by_cases v : k = s 0 2
    · omega
    · rw [u, zup_s, zup_n v] at e1 e2
      exact absurd ⟨e1.symm, e2.symm⟩ (h0 k (by omega))
    · rw [v, zup_s, zup_n u] at e1 e2
      exact absurd ⟨e1, e2⟩ (h0 j (by omega))
    · rw [zup_n u, zup_n v] at e1 e2
      exact hW.2.2 j k (by omega) (by omega) e1 e2

set_option maxRecDepth 100000 in
theorem c_X3_add {E : mm_E} (hI : mm_FX E) {M : mm_M} {s : zS} (hR : zX_k s M) (hW : zW_k s) {l p a : Nat} (hl : l < 8) (hp : p < 24) (ha : a ≤ 3) (hs : s 0 2 < 200) (h0 : z_an s l p = 0) : mm_Cal E mX3_add [.ref (E.1 3), .int (nI l), .int (nI p), .int (nI a)] M (fun r M' => r = some (.int (nI (s 0 2))) ∧ zX_k (zaddk s l p a) M' ∧ mm_same [3, 12, 13, 14, 15, 16, 17, 18, 19] M M') := by
  have hn := hW.1
  have hz := zcnt_le (z_of s p) (s 0 2)
  refine jr_entry RX3 (by decide +kernel) (Nat.le_of_ble_eq_true rfl) (fun g hg => ?_)
  refine jr_lv (lv' := [(0, .ref (E.1 3)), (1, .int (nI l)), (2, .int (nI p)), (3, .int (nI a))]) [0, 1, 2, 3] rfl ?_
  refine jr_aload_n hg 0 rfl rfl dX3_add_0 ?_
  refine gf_X3_37 hg (hI 3 (by decide)) dX3_add_1 ?_
  refine jr_top (hR.1) ?_
  refine jr_sipush hg (nI 200) dX3_add_4 (by decide) ?_
  refine jr_icmp_ltN (tgt := 14) hg dX3_add_7 (by decide) (by omega) (by omega) (fun h7 => ?_) (fun h => by omega)
  refine jr_iload_n hg 1 rfl rfl dX3_add_14 ?_
  refine jr_iload_n hg 2 rfl rfl dX3_add_15 ?_
  refine jr_cS2v hg lk_X3_41 (by decide) (by decide) (Nat.le_of_ble_eq_true rfl) dX3_add_16 (c_X3_isCell hI hl hp) ?_
  refine jr_if_neN (tgt := 26) hg dX3_add_19 (by decide) (by omega) (fun h19 => ?_) (fun h => by omega)
  refine jr_aload_n hg 0 rfl rfl dX3_add_26 ?_
  refine gf_X3_37 hg (hI 3 (by decide)) dX3_add_27 ?_
  refine jr_top (hR.1) ?_
  refine jr_istore hg dX3_add_30 (by decide) rfl ?_
  refine jr_aload_n hg 1 rfl rfl dX3_add_32 ?_
  refine gf_X3_9 hg (hI 3 (by decide)) dX3_add_33 ?_
  refine jr_iload hg 0 rfl dX3_add_36 ?_
  refine jr_iload_n hg 2 rfl rfl dX3_add_38 ?_
  refine jr_iastN hg (n := 200) (by omega) (by decide) (hI 12 (by decide)) (ac_12) dX3_add_39 ?_
  refine jr_aload_n hg 1 rfl rfl dX3_add_40 ?_
  refine gf_X3_15 hg (hI 3 (by decide)) dX3_add_41 ?_
  refine jr_iload hg 0 rfl dX3_add_44 ?_
  refine jr_iload_n hg 3 rfl rfl dX3_add_46 ?_
  refine jr_iastN hg (n := 200) (by omega) (by decide) (hI 13 (by decide)) (ac_13) dX3_add_47 ?_
  refine jr_aload_n hg 1 rfl rfl dX3_add_48 ?_
  refine gf_X3_18 hg (hI 3 (by decide)) dX3_add_49 ?_
  refine jr_iload hg 0 rfl dX3_add_52 ?_
  refine jr_iload_n hg 4 rfl rfl dX3_add_54 ?_
  refine jr_iastN hg (n := 200) (by omega) (by decide) (hI 14 (by decide)) (ac_14) dX3_add_55 ?_
  refine jr_aload_n hg 1 rfl rfl dX3_add_56 ?_
  refine gf_X3_21 hg (hI 3 (by decide)) dX3_add_57 ?_
  refine jr_iload hg 0 rfl dX3_add_60 ?_
  refine jr_aload_n hg 1 rfl rfl dX3_add_62 ?_
  refine gf_X3_28 hg (hI 3 (by decide)) dX3_add_63 ?_
  refine jr_iload_n hg 3 rfl rfl dX3_add_66 ?_
  refine jr_ialdN hg (n := 24) (by omega) (by decide) (hI 17 (by decide)) (ac_17 _ _) dX3_add_67 ?_
  refine jr_top ((hR.2.2.2.1 _ (by omega)).1) ?_
  refine jr_bipush hg (nI 6) dX3_add_68 (by decide) ?_
  refine jr_icmp_geN (tgt := 77) hg dX3_add_70 (by decide) (by omega) (by omega) (fun h70 => ?_) (fun h70 => ?_)
  · refine jr_iconst hg (nI 0) dX3_add_77 (by decide) ?_
    refine jr_zastN hg (by first | exact Or.inl rfl | exact Or.inr rfl | exact z01 _ | assumption) (n := 200) (by omega) (by decide) (hI 15 (by decide)) (ac_15) dX3_add_78 ?_
    refine jr_aload_n hg 1 rfl rfl dX3_add_79 ?_
    refine gf_X3_25 hg (hI 3 (by decide)) dX3_add_80 ?_
    refine jr_iload_n hg 2 rfl rfl dX3_add_83 ?_
    refine jr_bipush hg (nI 24) dX3_add_84 (by decide) ?_
    refine jr_imulN hg dX3_add_86 ?_
    refine jr_iload_n hg 3 rfl rfl dX3_add_87 ?_
    refine jr_iaddN hg dX3_add_88 ?_
    refine jr_iload_n hg 4 rfl rfl dX3_add_89 ?_
    refine jr_iastN hg (n := 192) (by omega) (by decide) (hI 16 (by decide)) (ac_16) dX3_add_90 ?_
    refine jr_aload_n hg 1 rfl rfl dX3_add_91 ?_
    refine gf_X3_28 hg (hI 3 (by decide)) dX3_add_92 ?_
    refine jr_iload_n hg 3 rfl rfl dX3_add_95 ?_
    refine jr_dup2 hg dX3_add_96 rfl rfl ?_
    refine jr_ialdN hg (n := 24) (by omega) (by decide) (hI 17 (by decide)) (ac_17 _ _) dX3_add_97 ?_
    refine jr_top ((hR.2.2.2.1 _ (by omega)).1) ?_
    refine jr_iconst hg (nI 1) dX3_add_98 (by decide) ?_
    refine jr_iaddN hg dX3_add_99 ?_
    refine jr_iastN hg (n := 24) (by omega) (by decide) (hI 17 (by decide)) (ac_17) dX3_add_100 ?_
    refine jr_aload_n hg 1 rfl rfl dX3_add_101 ?_
    refine gf_X3_31 hg (hI 3 (by decide)) dX3_add_102 ?_
    refine jr_iload_n hg 3 rfl rfl dX3_add_105 ?_
    refine jr_dup2 hg dX3_add_106 rfl rfl ?_
    refine jr_ialdN hg (n := 24) (by omega) (by decide) (hI 18 (by decide)) (ac_18 _ _) dX3_add_107 ?_
    refine jr_top ((hR.2.2.2.1 _ (by omega)).2) ?_
    refine jr_iload_n hg 4 rfl rfl dX3_add_108 ?_
    refine jr_iconst hg (nI 3) dX3_add_109 (by decide) ?_
    refine jr_icmp_neN (tgt := 117) hg dX3_add_110 (by decide) (by omega) (by omega) (fun h110 => ?_) (fun h110 => ?_)
    · refine jr_iconst hg (nI 0) dX3_add_117 (by decide) ?_
      refine cn_X3_45 hg (by decide) (Nat.le_of_ble_eq_true rfl) dX3_add_118 (c_X7_oneIf hI (by decide)) ?_
      refine jr_iaddN hg dX3_add_121 ?_
      refine jr_iastN hg (n := 24) (by omega) (by decide) (hI 18 (by decide)) (ac_18) dX3_add_122 ?_
      refine jr_aload_n hg 1 rfl rfl dX3_add_123 ?_
      refine gf_X3_34 hg (hI 3 (by decide)) dX3_add_124 ?_
      refine jr_iload_n hg 2 rfl rfl dX3_add_127 ?_
      refine jr_dup2 hg dX3_add_128 rfl rfl ?_
      refine jr_ialdN hg (n := 8) (by omega) (by decide) (hI 19 (by decide)) (ac_19 _ _) dX3_add_129 ?_
      refine jr_top (hR.2.2.2.2 _ (by omega)) ?_
      refine jr_iconst hg (nI 1) dX3_add_130 (by decide) ?_
      refine jr_iaddN hg dX3_add_131 ?_
      refine jr_iastN hg (n := 8) (by omega) (by decide) (hI 19 (by decide)) (ac_19) dX3_add_132 ?_
      refine jr_aload_n hg 1 rfl rfl dX3_add_133 ?_
      refine jr_dup hg dX3_add_134 rfl ?_
      refine gf_X3_37 hg (hI 3 (by decide)) dX3_add_135 ?_
      refine jr_top (hR.1) ?_
      refine jr_iconst hg (nI 1) dX3_add_138 (by decide) ?_
      refine jr_iaddN hg dX3_add_139 ?_
      refine pf_X3_37 hg (hI 3 (by decide)) dX3_add_140 ?_
      refine jr_iload hg 0 rfl dX3_add_143 ?_
      exact jr_iret hg rfl dX3_add_145 (⟨rfl, zX_addk (l := l) (p := p) (a := a) hR (by omega) (by omega) h0 (by rw [decide_eq_false (by omega)]; rfl) (by rw [show (a == 3) = false by simp [h110]]; rfl), zaddkM_same⟩)
    · refine jr_iconst hg (nI 1) dX3_add_113 (by decide) ?_
      refine jr_goto (tgt := 118) hg dX3_add_114 (by decide) ?_
      refine cn_X3_45 hg (by decide) (Nat.le_of_ble_eq_true rfl) dX3_add_118 (c_X7_oneIf hI (by decide)) ?_
      refine jr_iaddN hg dX3_add_121 ?_
      refine jr_iastN hg (n := 24) (by omega) (by decide) (hI 18 (by decide)) (ac_18) dX3_add_122 ?_
      refine jr_aload_n hg 1 rfl rfl dX3_add_123 ?_
      refine gf_X3_34 hg (hI 3 (by decide)) dX3_add_124 ?_
      refine jr_iload_n hg 2 rfl rfl dX3_add_127 ?_
      refine jr_dup2 hg dX3_add_128 rfl rfl ?_
      refine jr_ialdN hg (n := 8) (by omega) (by decide) (hI 19 (by decide)) (ac_19 _ _) dX3_add_129 ?_
      refine jr_top (hR.2.2.2.2 _ (by omega)) ?_
      refine jr_iconst hg (nI 1) dX3_add_130 (by decide) ?_
      refine jr_iaddN hg dX3_add_131 ?_
      refine jr_iastN hg (n := 8) (by omega) (by decide) (hI 19 (by decide)) (ac_19) dX3_add_132 ?_
      refine jr_aload_n hg 1 rfl rfl dX3_add_133 ?_
      refine jr_dup hg dX3_add_134 rfl ?_
      refine gf_X3_37 hg (hI 3 (by decide)) dX3_add_135 ?_
      refine jr_top (hR.1) ?_
      refine jr_iconst hg (nI 1) dX3_add_138 (by decide) ?_
      refine jr_iaddN hg dX3_add_139 ?_
      refine pf_X3_37 hg (hI 3 (by decide)) dX3_add_140 ?_
      refine jr_iload hg 0 rfl dX3_add_143 ?_
      exact jr_iret hg rfl dX3_add_145 (⟨rfl, zX_addk (l := l) (p := p) (a := a) hR (by omega) (by omega) h0 (by rw [decide_eq_false (by omega)]; rfl) (by rw [h110]; rfl), zaddkM_same⟩)
  · refine jr_iconst hg (nI 1) dX3_add_73 (by decide) ?_
    refine jr_goto (tgt := 78) hg dX3_add_74 (by decide) ?_
    refine jr_zastN hg (by first | exact Or.inl rfl | exact Or.inr rfl | exact z01 _ | assumption) (n := 200) (by omega) (by decide) (hI 15 (by decide)) (ac_15) dX3_add_78 ?_
    refine jr_aload_n hg 1 rfl rfl dX3_add_79 ?_
    refine gf_X3_25 hg (hI 3 (by decide)) dX3_add_80 ?_
    refine jr_iload_n hg 2 rfl rfl dX3_add_83 ?_
    refine jr_bipush hg (nI 24) dX3_add_84 (by decide) ?_
    refine jr_imulN hg dX3_add_86 ?_
    refine jr_iload_n hg 3 rfl rfl dX3_add_87 ?_
    refine jr_iaddN hg dX3_add_88 ?_
    refine jr_iload_n hg 4 rfl rfl dX3_add_89 ?_
    refine jr_iastN hg (n := 192) (by omega) (by decide) (hI 16 (by decide)) (ac_16) dX3_add_90 ?_
    refine jr_aload_n hg 1 rfl rfl dX3_add_91 ?_
    refine gf_X3_28 hg (hI 3 (by decide)) dX3_add_92 ?_
    refine jr_iload_n hg 3 rfl rfl dX3_add_95 ?_
    refine jr_dup2 hg dX3_add_96 rfl rfl ?_
    refine jr_ialdN hg (n := 24) (by omega) (by decide) (hI 17 (by decide)) (ac_17 _ _) dX3_add_97 ?_
    refine jr_top ((hR.2.2.2.1 _ (by omega)).1) ?_
    refine jr_iconst hg (nI 1) dX3_add_98 (by decide) ?_
    refine jr_iaddN hg dX3_add_99 ?_
    refine jr_iastN hg (n := 24) (by omega) (by decide) (hI 17 (by decide)) (ac_17) dX3_add_100 ?_
    refine jr_aload_n hg 1 rfl rfl dX3_add_101 ?_
    refine gf_X3_31 hg (hI 3 (by decide)) dX3_add_102 ?_
    refine jr_iload_n hg 3 rfl rfl dX3_add_105 ?_
    refine jr_dup2 hg dX3_add_106 rfl rfl ?_
    refine jr_ialdN hg (n := 24) (by omega) (by decide) (hI 18 (by decide)) (ac_18 _ _) dX3_add_107 ?_
    refine jr_top ((hR.2.2.2.1 _ (by omega)).2) ?_
    refine jr_iload_n hg 4 rfl rfl dX3_add_108 ?_
    refine jr_iconst hg (nI 3) dX3_add_109 (by decide) ?_
    refine jr_icmp_neN (tgt := 117) hg dX3_add_110 (by decide) (by omega) (by omega) (fun h110 => ?_) (fun h110 => ?_)
    · refine jr_iconst hg (nI 0) dX3_add_117 (by decide) ?_
      refine cn_X3_45 hg (by decide) (Nat.le_of_ble_eq_true rfl) dX3_add_118 (c_X7_oneIf hI (by decide)) ?_
      refine jr_iaddN hg dX3_add_121 ?_
      refine jr_iastN hg (n := 24) (by omega) (by decide) (hI 18 (by decide)) (ac_18) dX3_add_122 ?_
      refine jr_aload_n hg 1 rfl rfl dX3_add_123 ?_
      refine gf_X3_34 hg (hI 3 (by decide)) dX3_add_124 ?_
      refine jr_iload_n hg 2 rfl rfl dX3_add_127 ?_
      refine jr_dup2 hg dX3_add_128 rfl rfl ?_
      refine jr_ialdN hg (n := 8) (by omega) (by decide) (hI 19 (by decide)) (ac_19 _ _) dX3_add_129 ?_
      refine jr_top (hR.2.2.2.2 _ (by omega)) ?_
      refine jr_iconst hg (nI 1) dX3_add_130 (by decide) ?_
      refine jr_iaddN hg dX3_add_131 ?_
      refine jr_iastN hg (n := 8) (by omega) (by decide) (hI 19 (by decide)) (ac_19) dX3_add_132 ?_
      refine jr_aload_n hg 1 rfl rfl dX3_add_133 ?_
      refine jr_dup hg dX3_add_134 rfl ?_
      refine gf_X3_37 hg (hI 3 (by decide)) dX3_add_135 ?_
      refine jr_top (hR.1) ?_
      refine jr_iconst hg (nI 1) dX3_add_138 (by decide) ?_
      refine jr_iaddN hg dX3_add_139 ?_
      refine pf_X3_37 hg (hI 3 (by decide)) dX3_add_140 ?_
      refine jr_iload hg 0 rfl dX3_add_143 ?_
      exact jr_iret hg rfl dX3_add_145 (⟨rfl, zX_addk (l := l) (p := p) (a := a) hR (by omega) (by omega) h0 (by rw [decide_eq_true (by omega)]; rfl) (by rw [show (a == 3) = false by simp [h110]]; rfl), zaddkM_same⟩)
    · refine jr_iconst hg (nI 1) dX3_add_113 (by decide) ?_
      refine jr_goto (tgt := 118) hg dX3_add_114 (by decide) ?_
      refine cn_X3_45 hg (by decide) (Nat.le_of_ble_eq_true rfl) dX3_add_118 (c_X7_oneIf hI (by decide)) ?_
      refine jr_iaddN hg dX3_add_121 ?_
      refine jr_iastN hg (n := 24) (by omega) (by decide) (hI 18 (by decide)) (ac_18) dX3_add_122 ?_
      refine jr_aload_n hg 1 rfl rfl dX3_add_123 ?_
      refine gf_X3_34 hg (hI 3 (by decide)) dX3_add_124 ?_
      refine jr_iload_n hg 2 rfl rfl dX3_add_127 ?_
      refine jr_dup2 hg dX3_add_128 rfl rfl ?_
      refine jr_ialdN hg (n := 8) (by omega) (by decide) (hI 19 (by decide)) (ac_19 _ _) dX3_add_129 ?_
      refine jr_top (hR.2.2.2.2 _ (by omega)) ?_
      refine jr_iconst hg (nI 1) dX3_add_130 (by decide) ?_
      refine jr_iaddN hg dX3_add_131 ?_
      refine jr_iastN hg (n := 8) (by omega) (by decide) (hI 19 (by decide)) (ac_19) dX3_add_132 ?_
      refine jr_aload_n hg 1 rfl rfl dX3_add_133 ?_
      refine jr_dup hg dX3_add_134 rfl ?_
      refine gf_X3_37 hg (hI 3 (by decide)) dX3_add_135 ?_
      refine jr_top (hR.1) ?_
      refine jr_iconst hg (nI 1) dX3_add_138 (by decide) ?_
      refine jr_iaddN hg dX3_add_139 ?_
      refine pf_X3_37 hg (hI 3 (by decide)) dX3_add_140 ?_
      refine jr_iload hg 0 rfl dX3_add_143 ?_
      exact jr_iret hg rfl dX3_add_145 (⟨rfl, zX_addk (l := l) (p := p) (a := a) hR (by omega) (by omega) h0 (by rw [decide_eq_true (by omega)]; rfl) (by rw [h110]; rfl), zaddkM_same⟩)
