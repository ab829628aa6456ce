theorem la_cmp {L i : Nat} (hL : L ≤ 2560) (hi : i < 2 ^ 31) (h : ¬ Int32.ofNat L - nI 5 < nI i) : i + 5 ≤ L := by
  rw [Int32.lt_iff_toInt_lt, nI_toInt hi] at h
  by_cases h5 : 5 ≤ L
  · have e : Int32.ofNat L - nI 5 = nI (L - 5) := by
      have e1 : Int32.ofNat L = nI (L - 5) + nI 5 := by
        rw [nI_add, Nat.sub_add_cancel h5]
        rfl
      rw [e1, Int32.add_sub_cancel]
    rw [e, nI_toInt (by omega)] at h
    omega
  · have hc : L = 0 ∨ L = 1 ∨ L = 2 ∨ L = 3 ∨ L = 4 := by omega
    have hn : (Int32.ofNat L - nI 5).toInt < 0 := by
      rcases hc with rfl | rfl | rfl | rfl | rfl <;> decide
    omega
theorem la_and (x : Int32) : ∃ n : Nat, n < 32 ∧ x &&& nI 31 = nI n := by
  have e : nI x.toBitVec.toNat = x := by
    apply Int32.toBitVec_inj.mp
    show BitVec.ofNat 32 x.toBitVec.toNat = x.toBitVec
    rw [BitVec.ofNat_toNat, BitVec.setWidth_eq]
  refine ⟨x.toBitVec.toNat &&& 31, Nat.lt_succ_of_le Nat.and_le_right, ?_⟩
  rw [← nI_and, e]
section LC
variable {p : Program} {e : Env} {s : State} {m : MethodId} {below : List Frame} {meth : Method} {c : Code} {z : ct_T} {a7 a8 : Nat → Nat} {b L : Nat} {xs : Nat → Int32} {Q : State → Prop} {i : Nat} {M7 M8 : mm_M}
theorem la_nx (h : la_Fx p s m c z a7 a8 b L xs) (kk : la_J p e s m below meth c z a7 a8 b Q (i + 5) 18 [] M7 M8) : la_J p e s m below meth c z a7 a8 b Q i 1094 [] M7 M8 := by
  intro H locs ls hP7 hP8 hS hl
  refine lv_iinc (v := nI (i + 5)) (lv' := [(3, .int (nI (i + 5))), (0, .ref b), (1, .ref (a7 7)), (2, .ref (a8 35))]) h.1.1 h.1.2.1 dL_law_1094 hl (k := 3) rfl (nI_add i 5) (by decide) rfl (fun ls hl => ?_)
  exact lv_goto (tgt := 18) h.1.1 h.1.2.1 dL_law_1097 (by decide) (kk H locs ls hP7 hP8 hS (lv_sub hl [1, 2, 3, 0] rfl))
set_option maxHeartbeats 4000000 in
theorem la_step (h : la_Fx p s m c z a7 a8 b L xs) (hL : L ≤ 2560) (hi : i < 2 ^ 31) (hend : ∀ (i : Nat) (M7 M8 : mm_M), la_J p e s m below meth c z a7 a8 b Q i 1100 [] M7 M8) {zs : zS} (h7 : zX zs M7) (h8 : zR zs M8) (hW : zW zs) (next : i + 5 ≤ L → ∀ (zs : zS) (M7 M8 : mm_M), zX zs M7 → zR zs M8 → zW zs → la_J p e s m below meth c z a7 a8 b Q i 1094 [] M7 M8) : la_J p e s m below meth c z a7 a8 b Q i 18 [] M7 M8 := by
  intro H locs ls hP7 hP8 hS hl
  obtain ⟨F, -, -, -, -, -, hX, hbl⟩ := id h
  refine lv_iload_n F.1 F.2.1 dL_law_18 rfl (lv_at hl 3 rfl) ?_
  refine lv_aload_n F.1 F.2.1 dL_law_19 rfl (lv_at hl 0 rfl) ?_
  refine va_slen F.1 F.2.1 hX hbl (show ¬ la_A s b from Nat.not_le.mpr hbl) hS dL_law_20 ?_
  refine lv_iconst (v := nI 5) F.1 F.2.1 dL_law_21 (by decide) ?_
  refine lv_isub F.1 F.2.1 dL_law_22 ?_
  refine lv_icmp_gt (tgt := 1100) F.1 F.2.1 dL_law_23 (by decide) (fun _ => hend i M7 M8 H locs ls hP7 hP8 hS hl) (fun q => ?_)
  have hi5 := la_cmp hL hi q
  refine lv_aload_n F.1 F.2.1 dL_law_26 rfl (lv_at hl 0 rfl) ?_
  refine lv_iload_n F.1 F.2.1 dL_law_27 rfl (lv_at hl 3 rfl) ?_
  refine va_sld F.1 F.2.1 hX hbl (show ¬ la_A s b from Nat.not_le.mpr hbl) hS (vp_in_nI (by omega) (by omega)) dL_law_28 ?_
  refine lv_bipush (v := nI 31) F.1 F.2.1 dL_law_29 (by decide) ?_
  refine lv_iand F.1 F.2.1 dL_law_31 ?_
  obtain ⟨n, hn, en⟩ := la_and (xs (nI i).toNatClampNeg)
  rw [en]
  have hc : n = 0 ∨ n = 1 ∨ n = 2 ∨ n = 3 ∨ n = 4 ∨ n = 5 ∨ n = 6 ∨ n = 7 ∨ n = 8 ∨ n = 9 ∨ n = 10 ∨ n = 11 ∨ n = 12 ∨ n = 13 ∨ n = 14 ∨ n = 15 ∨ n = 16 ∨ n = 17 ∨ n = 18 ∨ n = 19 ∨ n = 20 ∨ n = 21 ∨ n = 22 ∨ n = 23 ∨ n = 24 ∨ n = 25 ∨ n = 26 ∨ n = 27 ∨ n = 28 ∨ n = 29 ∨ n = 30 ∨ n = 31 := by omega
  rcases hc with rfl | rfl | rfl | rfl | rfl | rfl | rfl | rfl | rfl | rfl | rfl | rfl | rfl | rfl | rfl | rfl | rfl | rfl | rfl | rfl | rfl | rfl | rfl | rfl | rfl | rfl | rfl | rfl | rfl | rfl | rfl | rfl
  · exact lv_tableIn (off := 136) (tgt := 168) F.1 F.2.1 dL_law_32 (by decide) (by decide) (by decide) (by decide) (la_k0 h hL hi5 h7 h8 hW (next hi5) H locs ls hP7 hP8 hS hl)
  · exact lv_tableIn (off := 205) (tgt := 237) F.1 F.2.1 dL_law_32 (by decide) (by decide) (by decide) (by decide) (la_k1 h hL hi5 h7 h8 hW (next hi5) H locs ls hP7 hP8 hS hl)
  · exact lv_tableIn (off := 228) (tgt := 260) F.1 F.2.1 dL_law_32 (by decide) (by decide) (by decide) (by decide) (la_k2 h hL hi5 h7 h8 hW (next hi5) H locs ls hP7 hP8 hS hl)
  · exact lv_tableIn (off := 251) (tgt := 283) F.1 F.2.1 dL_law_32 (by decide) (by decide) (by decide) (by decide) (la_k3 h hL hi5 h7 h8 hW (next hi5) H locs ls hP7 hP8 hS hl)
  · exact lv_tableIn (off := 314) (tgt := 346) F.1 F.2.1 dL_law_32 (by decide) (by decide) (by decide) (by decide) (la_k4 h hL hi5 h7 h8 hW (next hi5) H locs ls hP7 hP8 hS hl)
  · exact lv_tableIn (off := 327) (tgt := 359) F.1 F.2.1 dL_law_32 (by decide) (by decide) (by decide) (by decide) (la_k5 h hL hi5 h7 h8 hW (next hi5) H locs ls hP7 hP8 hS hl)
  · exact lv_tableIn (off := 340) (tgt := 372) F.1 F.2.1 dL_law_32 (by decide) (by decide) (by decide) (by decide) (la_k6 h hL hi5 h7 h8 hW (next hi5) H locs ls hP7 hP8 hS hl)
  · exact lv_tableIn (off := 363) (tgt := 395) F.1 F.2.1 dL_law_32 (by decide) (by decide) (by decide) (by decide) (la_k7 h hL hi5 h7 h8 hW (next hi5) H locs ls hP7 hP8 hS hl)
  · exact lv_tableIn (off := 386) (tgt := 418) F.1 F.2.1 dL_law_32 (by decide) (by decide) (by decide) (by decide) (la_k8 h hL hi5 h7 h8 hW (next hi5) H locs ls hP7 hP8 hS hl)
  · exact lv_tableIn (off := 419) (tgt := 451) F.1 F.2.1 dL_law_32 (by decide) (by decide) (by decide) (by decide) (la_k9 h hL hi5 h7 h8 hW (next hi5) H locs ls hP7 hP8 hS hl)
  · exact lv_tableIn (off := 442) (tgt := 474) F.1 F.2.1 dL_law_32 (by decide) (by decide) (by decide) (by decide) (la_k10 h hL hi5 h7 h8 hW (next hi5) H locs ls hP7 hP8 hS hl)
  · exact lv_tableIn (off := 485) (tgt := 517) F.1 F.2.1 dL_law_32 (by decide) (by decide) (by decide) (by decide) (la_k11 h hL hi5 h7 h8 hW (next hi5) H locs ls hP7 hP8 hS hl)
  · exact lv_tableIn (off := 518) (tgt := 550) F.1 F.2.1 dL_law_32 (by decide) (by decide) (by decide) (by decide) (la_k12 h hL hi5 h7 h8 hW (next hi5) H locs ls hP7 hP8 hS hl)
  · exact lv_tableIn (off := 551) (tgt := 583) F.1 F.2.1 dL_law_32 (by decide) (by decide) (by decide) (by decide) (la_k13 h hL hi5 h7 h8 hW (next hi5) H locs ls hP7 hP8 hS hl)
  · exact lv_tableIn (off := 584) (tgt := 616) F.1 F.2.1 dL_law_32 (by decide) (by decide) (by decide) (by decide) (la_k14 h hL hi5 h7 h8 hW (next hi5) H locs ls hP7 hP8 hS hl)
  · exact lv_tableIn (off := 627) (tgt := 659) F.1 F.2.1 dL_law_32 (by decide) (by decide) (by decide) (by decide) (la_k15 h hL hi5 h7 h8 hW (next hi5) H locs ls hP7 hP8 hS hl)
  · exact lv_tableIn (off := 650) (tgt := 682) F.1 F.2.1 dL_law_32 (by decide) (by decide) (by decide) (by decide) (la_k16 h hL hi5 h7 h8 hW (next hi5) H locs ls hP7 hP8 hS hl)
  · exact lv_tableIn (off := 663) (tgt := 695) F.1 F.2.1 dL_law_32 (by decide) (by decide) (by decide) (by decide) (la_k17 h hL hi5 h7 h8 hW (next hi5) H locs ls hP7 hP8 hS hl)
  · exact lv_tableIn (off := 696) (tgt := 728) F.1 F.2.1 dL_law_32 (by decide) (by decide) (by decide) (by decide) (la_k18 h hL hi5 h7 h8 hW (next hi5) H locs ls hP7 hP8 hS hl)
  · exact lv_tableIn (off := 739) (tgt := 771) F.1 F.2.1 dL_law_32 (by decide) (by decide) (by decide) (by decide) (la_k19 h hL hi5 h7 h8 hW (next hi5) H locs ls hP7 hP8 hS hl)
  · exact lv_tableIn (off := 762) (tgt := 794) F.1 F.2.1 dL_law_32 (by decide) (by decide) (by decide) (by decide) (la_k20 h hL hi5 h7 h8 hW (next hi5) H locs ls hP7 hP8 hS hl)
  · exact lv_tableIn (off := 795) (tgt := 827) F.1 F.2.1 dL_law_32 (by decide) (by decide) (by decide) (by decide) (la_k21 h hL hi5 h7 h8 hW (next hi5) H locs ls hP7 hP8 hS hl)
  · exact lv_tableIn (off := 828) (tgt := 860) F.1 F.2.1 dL_law_32 (by decide) (by decide) (by decide) (by decide) (la_k22 h hL hi5 h7 h8 hW (next hi5) H locs ls hP7 hP8 hS hl)
  · exact lv_tableIn (off := 871) (tgt := 903) F.1 F.2.1 dL_law_32 (by decide) (by decide) (by decide) (by decide) (la_k23 h hL hi5 h7 h8 hW (next hi5) H locs ls hP7 hP8 hS hl)
  · exact lv_tableIn (off := 894) (tgt := 926) F.1 F.2.1 dL_law_32 (by decide) (by decide) (by decide) (by decide) (la_k24 h hL hi5 h7 h8 hW (next hi5) H locs ls hP7 hP8 hS hl)
  · exact lv_tableIn (off := 917) (tgt := 949) F.1 F.2.1 dL_law_32 (by decide) (by decide) (by decide) (by decide) (la_k25 h hL hi5 h7 h8 hW (next hi5) H locs ls hP7 hP8 hS hl)
  · exact lv_tableIn (off := 940) (tgt := 972) F.1 F.2.1 dL_law_32 (by decide) (by decide) (by decide) (by decide) (la_k26 h hL hi5 h7 h8 hW (next hi5) H locs ls hP7 hP8 hS hl)
  · exact lv_tableIn (off := 973) (tgt := 1005) F.1 F.2.1 dL_law_32 (by decide) (by decide) (by decide) (by decide) (la_k27 h hL hi5 h7 h8 hW (next hi5) H locs ls hP7 hP8 hS hl)
  · exact lv_tableIn (off := 1006) (tgt := 1038) F.1 F.2.1 dL_law_32 (by decide) (by decide) (by decide) (by decide) (la_k28 h hL hi5 h7 h8 hW (next hi5) H locs ls hP7 hP8 hS hl)
  · exact lv_tableIn (off := 1039) (tgt := 1071) F.1 F.2.1 dL_law_32 (by decide) (by decide) (by decide) (by decide) (la_k29 h hL hi5 h7 h8 hW (next hi5) H locs ls hP7 hP8 hS hl)
  · exact lv_tableOut (tgt := 1094) F.1 F.2.1 dL_law_32 (Or.inr (by decide)) (by decide) (next hi5 zs M7 M8 h7 h8 hW H locs ls hP7 hP8 hS hl)
  · exact lv_tableOut (tgt := 1094) F.1 F.2.1 dL_law_32 (Or.inr (by decide)) (by decide) (next hi5 zs M7 M8 h7 h8 hW H locs ls hP7 hP8 hS hl)
theorem la_loop (h : la_Fx p s m c z a7 a8 b L xs) (hL : L ≤ 2560) (hend : ∀ (i : Nat) (M7 M8 : mm_M), la_J p e s m below meth c z a7 a8 b Q i 1100 [] M7 M8) : ∀ (n i : Nat) (zs : zS) (M7 M8 : mm_M), L ≤ i + n → i ≤ L → zX zs M7 → zR zs M8 → zW zs → la_J p e s m below meth c z a7 a8 b Q i 18 [] M7 M8 := by
  intro n
  induction n with
  | zero => exact fun i zs M7 M8 hn hi h7 h8 hW => la_step h hL (by omega) hend h7 h8 hW (fun h5 => absurd h5 (by omega))
  | succ n ih => exact fun i zs M7 M8 hn hi h7 h8 hW => la_step h hL (by omega) hend h7 h8 hW (fun h5 zs M7 M8 g7 g8 gW => la_nx h (ih (i + 5) zs M7 M8 (by omega) (by omega) g7 g8 gW))
end LC
theorem la_W0 : zW zs0 := by
  refine ⟨⟨Nat.zero_le _, fun p hp => absurd hp (Nat.not_lt_zero _)⟩, ⟨Nat.zero_le _, fun p hp => absurd hp (Nat.not_lt_zero _)⟩, ⟨Nat.zero_le _, fun p hp => absurd hp (Nat.not_lt_zero _), fun j k hj => absurd hj (Nat.not_lt_zero _)⟩, ?_, ⟨Nat.zero_le _, fun p hp => absurd hp (Nat.not_lt_zero _)⟩, ?_, ⟨fun j _ => z_o0_le j, fun j _ => ?_, fun j _ => ?_, Nat.zero_le _⟩, ⟨Nat.le_refl 2, ?_, fun t _ => ⟨Nat.le_refl 1, ?_⟩, fun k _ => ?_⟩⟩
  · show ∀ j, j < 8 → zlo j ≤ zfi j ∧ zfi j ≤ zhi j
    decide
  · show 0 < 2 ^ 31
    decide
  · show 1 ≤ z_t0 j ∧ z_t0 j ≤ 97
    unfold z_t0
    split <;> omega
  · show 1 ≤ z_y0 j ∧ z_y0 j ≤ 1000
    unfold z_y0
    split <;> omega
  · show 2 ≤ 8
    decide
  · show 1 ≤ 99
    decide
  · show 0 < 2 ^ 2
    decide
