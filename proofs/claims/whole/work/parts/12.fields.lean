section MFLD
variable {g : mm_G} {E : mm_E} {i : mm_I} {post : Option Value → mm_M → Prop} {pc : Nat} {lv : List (Nat × Value)} {rest : List Value} {M : mm_M}
theorem jr_top {x y : Int32} (h : x = y) (k : mm_J g E i post pc lv (.int y :: rest) M) : mm_J g E i post pc lv (.int x :: rest) M := h ▸ k
theorem jr_topl {x y : Int64} (h : x = y) (k : mm_J g E i post pc lv (.long y :: rest) M) : mm_J g E i post pc lv (.long x :: rest) M := h ▸ k
theorem gf_X0_9 (hg : mm_Ok g E i RX0) (hc : 0 ∈ E.2.1) (hd : decode i.2.1 pc = .ok (.getfield 9, 3)) (k : mm_J g E i post (pc + 3) lv (.long (M.2 0 0) :: rest) M) : mm_J g E i post pc lv (.ref (E.1 0) :: rest) M := jr_get (c := 0) (ci := 0) (k := 0) (C := RX0) (T := TX0) (N := 1) hg hc inlX0 rfl rfl (by decide) wm_24_18 rfl hd k
theorem pf_X0_9 (hg : mm_Ok g E i RX0) {x : Int64} (hc : 0 ∈ E.2.1) (hd : decode i.2.1 pc = .ok (.putfield 9, 3)) (k : mm_J g E i post (pc + 3) lv rest (mm_sl M 0 (vp_updL (M.2 0) 0 x))) : mm_J g E i post pc lv (.long x :: .ref (E.1 0) :: rest) M := jr_put (c := 0) (ci := 0) (k := 0) (C := RX0) (T := TX0) (N := 1) (ty0 := tyX0) (ty := .long) (M' := mm_sl M 0 (vp_updL (M.2 0) 0 x)) hg hc inlX0 tyX0_ok nmX0 rfl rfl (by decide) (Nat.le_of_ble_eq_true rfl) wm_24_18 rfl (tyX0_ok 0 (by decide)) rfl rfl rfl mm_sl_o hd k
theorem gf_X1_9 (hg : mm_Ok g E i RX1) (hc : 1 ∈ E.2.1) (hd : decode i.2.1 pc = .ok (.getfield 9, 3)) (k : mm_J g E i post (pc + 3) lv (.ref (E.1 8) :: rest) M) : mm_J g E i post pc lv (.ref (E.1 1) :: rest) M := jr_get (c := 1) (ci := 1) (k := 0) (C := RX1) (T := TX1) (N := 7) hg hc inlX1 rfl rfl (by decide) wm_2_22 rfl hd k
theorem gf_X1_15 (hg : mm_Ok g E i RX1) (hc : 1 ∈ E.2.1) (hd : decode i.2.1 pc = .ok (.getfield 15, 3)) (k : mm_J g E i post (pc + 3) lv (.ref (E.1 9) :: rest) M) : mm_J g E i post pc lv (.ref (E.1 1) :: rest) M := jr_get (c := 1) (ci := 1) (k := 1) (C := RX1) (T := TX1) (N := 7) hg hc inlX1 rfl rfl (by decide) wm_2_23 rfl hd k
theorem gf_X1_18 (hg : mm_Ok g E i RX1) (hc : 1 ∈ E.2.1) (hd : decode i.2.1 pc = .ok (.getfield 18, 3)) (k : mm_J g E i post (pc + 3) lv (.ref (E.1 10) :: rest) M) : mm_J g E i post pc lv (.ref (E.1 1) :: rest) M := jr_get (c := 1) (ci := 1) (k := 2) (C := RX1) (T := TX1) (N := 7) hg hc inlX1 rfl rfl (by decide) wm_3_0 rfl hd k
theorem gf_X1_30 (hg : mm_Ok g E i RX1) (hc : 1 ∈ E.2.1) (hd : decode i.2.1 pc = .ok (.getfield 30, 3)) (k : mm_J g E i post (pc + 3) lv (.int (M.1 1 6) :: rest) M) : mm_J g E i post pc lv (.ref (E.1 1) :: rest) M := jr_get (c := 1) (ci := 1) (k := 6) (C := RX1) (T := TX1) (N := 7) hg hc inlX1 rfl rfl (by decide) wm_3_6 rfl hd k
theorem pf_X1_30 (hg : mm_Ok g E i RX1) {x : Int32} (hc : 1 ∈ E.2.1) (hd : decode i.2.1 pc = .ok (.putfield 30, 3)) (k : mm_J g E i post (pc + 3) lv rest (mm_si M 1 (upd (M.1 1) 6 x))) : mm_J g E i post pc lv (.int x :: .ref (E.1 1) :: rest) M := jr_put (c := 1) (ci := 1) (k := 6) (C := RX1) (T := TX1) (N := 7) (ty0 := tyX1) (ty := .int) (M' := mm_si M 1 (upd (M.1 1) 6 x)) hg hc inlX1 tyX1_ok nmX1 rfl rfl (by decide) (Nat.le_of_ble_eq_true rfl) wm_3_6 rfl (tyX1_ok 6 (by decide)) rfl rfl rfl mm_si_o hd k
theorem gf_X1_34 (hg : mm_Ok g E i RX1) (hc : 1 ∈ E.2.1) (hd : decode i.2.1 pc = .ok (.getfield 34, 3)) (k : mm_J g E i post (pc + 3) lv (.int (M.1 1 3) :: rest) M) : mm_J g E i post pc lv (.ref (E.1 1) :: rest) M := jr_get (c := 1) (ci := 1) (k := 3) (C := RX1) (T := TX1) (N := 7) hg hc inlX1 rfl rfl (by decide) wm_11_0 rfl hd k
theorem pf_X1_34 (hg : mm_Ok g E i RX1) {x : Int32} (hc : 1 ∈ E.2.1) (hd : decode i.2.1 pc = .ok (.putfield 34, 3)) (k : mm_J g E i post (pc + 3) lv rest (mm_si M 1 (upd (M.1 1) 3 x))) : mm_J g E i post pc lv (.int x :: .ref (E.1 1) :: rest) M := jr_put (c := 1) (ci := 1) (k := 3) (C := RX1) (T := TX1) (N := 7) (ty0 := tyX1) (ty := .int) (M' := mm_si M 1 (upd (M.1 1) 3 x)) hg hc inlX1 tyX1_ok nmX1 rfl rfl (by decide) (Nat.le_of_ble_eq_true rfl) wm_11_0 rfl (tyX1_ok 3 (by decide)) rfl rfl rfl mm_si_o hd k
theorem gf_X1_42 (hg : mm_Ok g E i RX1) (hc : 1 ∈ E.2.1) (hd : decode i.2.1 pc = .ok (.getfield 42, 3)) (k : mm_J g E i post (pc + 3) lv (.int (M.1 1 5) :: rest) M) : mm_J g E i post pc lv (.ref (E.1 1) :: rest) M := jr_get (c := 1) (ci := 1) (k := 5) (C := RX1) (T := TX1) (N := 7) hg hc inlX1 rfl rfl (by decide) wm_11_17 rfl hd k
theorem pf_X1_42 (hg : mm_Ok g E i RX1) {x : Int32} (hc : 1 ∈ E.2.1) (hd : decode i.2.1 pc = .ok (.putfield 42, 3)) (k : mm_J g E i post (pc + 3) lv rest (mm_si M 1 (upd (M.1 1) 5 x))) : mm_J g E i post pc lv (.int x :: .ref (E.1 1) :: rest) M := jr_put (c := 1) (ci := 1) (k := 5) (C := RX1) (T := TX1) (N := 7) (ty0 := tyX1) (ty := .int) (M' := mm_si M 1 (upd (M.1 1) 5 x)) hg hc inlX1 tyX1_ok nmX1 rfl rfl (by decide) (Nat.le_of_ble_eq_true rfl) wm_11_17 rfl (tyX1_ok 5 (by decide)) rfl rfl rfl mm_si_o hd k
theorem gf_X1_53 (hg : mm_Ok g E i RX1) (hc : 1 ∈ E.2.1) (hd : decode i.2.1 pc = .ok (.getfield 53, 3)) (k : mm_J g E i post (pc + 3) lv (.int (M.1 1 4) :: rest) M) : mm_J g E i post pc lv (.ref (E.1 1) :: rest) M := jr_get (c := 1) (ci := 1) (k := 4) (C := RX1) (T := TX1) (N := 7) hg hc inlX1 rfl rfl (by decide) wm_11_22 rfl hd k
theorem pf_X1_53 (hg : mm_Ok g E i RX1) {x : Int32} (hc : 1 ∈ E.2.1) (hd : decode i.2.1 pc = .ok (.putfield 53, 3)) (k : mm_J g E i post (pc + 3) lv rest (mm_si M 1 (upd (M.1 1) 4 x))) : mm_J g E i post pc lv (.int x :: .ref (E.1 1) :: rest) M := jr_put (c := 1) (ci := 1) (k := 4) (C := RX1) (T := TX1) (N := 7) (ty0 := tyX1) (ty := .int) (M' := mm_si M 1 (upd (M.1 1) 4 x)) hg hc inlX1 tyX1_ok nmX1 rfl rfl (by decide) (Nat.le_of_ble_eq_true rfl) wm_11_22 rfl (tyX1_ok 4 (by decide)) rfl rfl rfl mm_si_o hd k
theorem gf_X2_9 (hg : mm_Ok g E i RX2) (hc : 2 ∈ E.2.1) (hd : decode i.2.1 pc = .ok (.getfield 9, 3)) (k : mm_J g E i post (pc + 3) lv (.ref (E.1 11) :: rest) M) : mm_J g E i post pc lv (.ref (E.1 2) :: rest) M := jr_get (c := 2) (ci := 2) (k := 0) (C := RX2) (T := TX2) (N := 2) hg hc inlX2 rfl rfl (by decide) wm_3_22 rfl hd k
theorem gf_X2_15 (hg : mm_Ok g E i RX2) (hc : 2 ∈ E.2.1) (hd : decode i.2.1 pc = .ok (.getfield 15, 3)) (k : mm_J g E i post (pc + 3) lv (.int (M.1 2 1) :: rest) M) : mm_J g E i post pc lv (.ref (E.1 2) :: rest) M := jr_get (c := 2) (ci := 2) (k := 1) (C := RX2) (T := TX2) (N := 2) hg hc inlX2 rfl rfl (by decide) wm_10_9 rfl hd k
theorem pf_X2_15 (hg : mm_Ok g E i RX2) {x : Int32} (hc : 2 ∈ E.2.1) (hd : decode i.2.1 pc = .ok (.putfield 15, 3)) (k : mm_J g E i post (pc + 3) lv rest (mm_si M 2 (upd (M.1 2) 1 x))) : mm_J g E i post pc lv (.int x :: .ref (E.1 2) :: rest) M := jr_put (c := 2) (ci := 2) (k := 1) (C := RX2) (T := TX2) (N := 2) (ty0 := tyX2) (ty := .int) (M' := mm_si M 2 (upd (M.1 2) 1 x)) hg hc inlX2 tyX2_ok nmX2 rfl rfl (by decide) (Nat.le_of_ble_eq_true rfl) wm_10_9 rfl (tyX2_ok 1 (by decide)) rfl rfl rfl mm_si_o hd k
theorem gf_X3_9 (hg : mm_Ok g E i RX3) (hc : 3 ∈ E.2.1) (hd : decode i.2.1 pc = .ok (.getfield 9, 3)) (k : mm_J g E i post (pc + 3) lv (.ref (E.1 12) :: rest) M) : mm_J g E i post pc lv (.ref (E.1 3) :: rest) M := jr_get (c := 3) (ci := 3) (k := 0) (C := RX3) (T := TX3) (N := 9) hg hc inlX3 rfl rfl (by decide) wm_4_3 rfl hd k
theorem gf_X3_15 (hg : mm_Ok g E i RX3) (hc : 3 ∈ E.2.1) (hd : decode i.2.1 pc = .ok (.getfield 15, 3)) (k : mm_J g E i post (pc + 3) lv (.ref (E.1 13) :: rest) M) : mm_J g E i post pc lv (.ref (E.1 3) :: rest) M := jr_get (c := 3) (ci := 3) (k := 1) (C := RX3) (T := TX3) (N := 9) hg hc inlX3 rfl rfl (by decide) wm_4_4 rfl hd k
theorem gf_X3_18 (hg : mm_Ok g E i RX3) (hc : 3 ∈ E.2.1) (hd : decode i.2.1 pc = .ok (.getfield 18, 3)) (k : mm_J g E i post (pc + 3) lv (.ref (E.1 14) :: rest) M) : mm_J g E i post pc lv (.ref (E.1 3) :: rest) M := jr_get (c := 3) (ci := 3) (k := 2) (C := RX3) (T := TX3) (N := 9) hg hc inlX3 rfl rfl (by decide) wm_4_5 rfl hd k
theorem gf_X3_21 (hg : mm_Ok g E i RX3) (hc : 3 ∈ E.2.1) (hd : decode i.2.1 pc = .ok (.getfield 21, 3)) (k : mm_J g E i post (pc + 3) lv (.ref (E.1 15) :: rest) M) : mm_J g E i post pc lv (.ref (E.1 3) :: rest) M := jr_get (c := 3) (ci := 3) (k := 3) (C := RX3) (T := TX3) (N := 9) hg hc inlX3 rfl rfl (by decide) wm_4_6 rfl hd k
theorem gf_X3_25 (hg : mm_Ok g E i RX3) (hc : 3 ∈ E.2.1) (hd : decode i.2.1 pc = .ok (.getfield 25, 3)) (k : mm_J g E i post (pc + 3) lv (.ref (E.1 16) :: rest) M) : mm_J g E i post pc lv (.ref (E.1 3) :: rest) M := jr_get (c := 3) (ci := 3) (k := 4) (C := RX3) (T := TX3) (N := 9) hg hc inlX3 rfl rfl (by decide) wm_4_7 rfl hd k
theorem gf_X3_28 (hg : mm_Ok g E i RX3) (hc : 3 ∈ E.2.1) (hd : decode i.2.1 pc = .ok (.getfield 28, 3)) (k : mm_J g E i post (pc + 3) lv (.ref (E.1 17) :: rest) M) : mm_J g E i post pc lv (.ref (E.1 3) :: rest) M := jr_get (c := 3) (ci := 3) (k := 5) (C := RX3) (T := TX3) (N := 9) hg hc inlX3 rfl rfl (by decide) wm_4_8 rfl hd k
theorem gf_X3_31 (hg : mm_Ok g E i RX3) (hc : 3 ∈ E.2.1) (hd : decode i.2.1 pc = .ok (.getfield 31, 3)) (k : mm_J g E i post (pc + 3) lv (.ref (E.1 18) :: rest) M) : mm_J g E i post pc lv (.ref (E.1 3) :: rest) M := jr_get (c := 3) (ci := 3) (k := 6) (C := RX3) (T := TX3) (N := 9) hg hc inlX3 rfl rfl (by decide) wm_4_9 rfl hd k
theorem gf_X3_34 (hg : mm_Ok g E i RX3) (hc : 3 ∈ E.2.1) (hd : decode i.2.1 pc = .ok (.getfield 34, 3)) (k : mm_J g E i post (pc + 3) lv (.ref (E.1 19) :: rest) M) : mm_J g E i post pc lv (.ref (E.1 3) :: rest) M := jr_get (c := 3) (ci := 3) (k := 7) (C := RX3) (T := TX3) (N := 9) hg hc inlX3 rfl rfl (by decide) wm_4_10 rfl hd k
theorem gf_X3_37 (hg : mm_Ok g E i RX3) (hc : 3 ∈ E.2.1) (hd : decode i.2.1 pc = .ok (.getfield 37, 3)) (k : mm_J g E i post (pc + 3) lv (.int (M.1 3 8) :: rest) M) : mm_J g E i post pc lv (.ref (E.1 3) :: rest) M := jr_get (c := 3) (ci := 3) (k := 8) (C := RX3) (T := TX3) (N := 9) hg hc inlX3 rfl rfl (by decide) wm_19_8 rfl hd k
theorem pf_X3_37 (hg : mm_Ok g E i RX3) {x : Int32} (hc : 3 ∈ E.2.1) (hd : decode i.2.1 pc = .ok (.putfield 37, 3)) (k : mm_J g E i post (pc + 3) lv rest (mm_si M 3 (upd (M.1 3) 8 x))) : mm_J g E i post pc lv (.int x :: .ref (E.1 3) :: rest) M := jr_put (c := 3) (ci := 3) (k := 8) (C := RX3) (T := TX3) (N := 9) (ty0 := tyX3) (ty := .int) (M' := mm_si M 3 (upd (M.1 3) 8 x)) hg hc inlX3 tyX3_ok nmX3 rfl rfl (by decide) (Nat.le_of_ble_eq_true rfl) wm_19_8 rfl (tyX3_ok 8 (by decide)) rfl rfl rfl mm_si_o hd k
theorem gf_X4_9 (hg : mm_Ok g E i RX4) (hc : 4 ∈ E.2.1) (hd : decode i.2.1 pc = .ok (.getfield 9, 3)) (k : mm_J g E i post (pc + 3) lv (.ref (E.1 20) :: rest) M) : mm_J g E i post pc lv (.ref (E.1 4) :: rest) M := jr_get (c := 4) (ci := 4) (k := 0) (C := RX4) (T := TX4) (N := 6) hg hc inlX4 rfl rfl (by decide) wm_3_13 rfl hd k
theorem gf_X4_15 (hg : mm_Ok g E i RX4) (hc : 4 ∈ E.2.1) (hd : decode i.2.1 pc = .ok (.getfield 15, 3)) (k : mm_J g E i post (pc + 3) lv (.ref (E.1 21) :: rest) M) : mm_J g E i post pc lv (.ref (E.1 4) :: rest) M := jr_get (c := 4) (ci := 4) (k := 1) (C := RX4) (T := TX4) (N := 6) hg hc inlX4 rfl rfl (by decide) wm_3_14 rfl hd k
theorem gf_X4_18 (hg : mm_Ok g E i RX4) (hc : 4 ∈ E.2.1) (hd : decode i.2.1 pc = .ok (.getfield 18, 3)) (k : mm_J g E i post (pc + 3) lv (.ref (E.1 22) :: rest) M) : mm_J g E i post pc lv (.ref (E.1 4) :: rest) M := jr_get (c := 4) (ci := 4) (k := 2) (C := RX4) (T := TX4) (N := 6) hg hc inlX4 rfl rfl (by decide) wm_3_15 rfl hd k
theorem gf_X4_21 (hg : mm_Ok g E i RX4) (hc : 4 ∈ E.2.1) (hd : decode i.2.1 pc = .ok (.getfield 21, 3)) (k : mm_J g E i post (pc + 3) lv (.ref (E.1 23) :: rest) M) : mm_J g E i post pc lv (.ref (E.1 4) :: rest) M := jr_get (c := 4) (ci := 4) (k := 3) (C := RX4) (T := TX4) (N := 6) hg hc inlX4 rfl rfl (by decide) wm_3_16 rfl hd k
theorem gf_X4_24 (hg : mm_Ok g E i RX4) (hc : 4 ∈ E.2.1) (hd : decode i.2.1 pc = .ok (.getfield 24, 3)) (k : mm_J g E i post (pc + 3) lv (.ref (E.1 24) :: rest) M) : mm_J g E i post pc lv (.ref (E.1 4) :: rest) M := jr_get (c := 4) (ci := 4) (k := 4) (C := RX4) (T := TX4) (N := 6) hg hc inlX4 rfl rfl (by decide) wm_3_18 rfl hd k
theorem gf_X4_28 (hg : mm_Ok g E i RX4) (hc : 4 ∈ E.2.1) (hd : decode i.2.1 pc = .ok (.getfield 28, 3)) (k : mm_J g E i post (pc + 3) lv (.int (M.1 4 5) :: rest) M) : mm_J g E i post pc lv (.ref (E.1 4) :: rest) M := jr_get (c := 4) (ci := 4) (k := 5) (C := RX4) (T := TX4) (N := 6) hg hc inlX4 rfl rfl (by decide) wm_7_19 rfl hd k
theorem pf_X4_28 (hg : mm_Ok g E i RX4) {x : Int32} (hc : 4 ∈ E.2.1) (hd : decode i.2.1 pc = .ok (.putfield 28, 3)) (k : mm_J g E i post (pc + 3) lv rest (mm_si M 4 (upd (M.1 4) 5 x))) : mm_J g E i post pc lv (.int x :: .ref (E.1 4) :: rest) M := jr_put (c := 4) (ci := 4) (k := 5) (C := RX4) (T := TX4) (N := 6) (ty0 := tyX4) (ty := .int) (M' := mm_si M 4 (upd (M.1 4) 5 x)) hg hc inlX4 tyX4_ok nmX4 rfl rfl (by decide) (Nat.le_of_ble_eq_true rfl) wm_7_19 rfl (tyX4_ok 5 (by decide)) rfl rfl rfl mm_si_o hd k
theorem gf_X5_11 (hg : mm_Ok g E i RX5) (hc : 5 ∈ E.2.1) (hd : decode i.2.1 pc = .ok (.getfield 11, 3)) (k : mm_J g E i post (pc + 3) lv (.ref (E.1 25) :: rest) M) : mm_J g E i post pc lv (.ref (E.1 5) :: rest) M := jr_get (c := 5) (ci := 5) (k := 0) (C := RX5) (T := TX5) (N := 7) hg hc inlX5 rfl rfl (by decide) wm_5_5 rfl hd k
theorem gf_X5_15 (hg : mm_Ok g E i RX5) (hc : 5 ∈ E.2.1) (hd : decode i.2.1 pc = .ok (.getfield 15, 3)) (k : mm_J g E i post (pc + 3) lv (.ref (E.1 26) :: rest) M) : mm_J g E i post pc lv (.ref (E.1 5) :: rest) M := jr_get (c := 5) (ci := 5) (k := 1) (C := RX5) (T := TX5) (N := 7) hg hc inlX5 rfl rfl (by decide) wm_5_6 rfl hd k
theorem gf_X5_18 (hg : mm_Ok g E i RX5) (hc : 5 ∈ E.2.1) (hd : decode i.2.1 pc = .ok (.getfield 18, 3)) (k : mm_J g E i post (pc + 3) lv (.ref (E.1 27) :: rest) M) : mm_J g E i post pc lv (.ref (E.1 5) :: rest) M := jr_get (c := 5) (ci := 5) (k := 2) (C := RX5) (T := TX5) (N := 7) hg hc inlX5 rfl rfl (by decide) wm_5_7 rfl hd k
theorem gf_X5_21 (hg : mm_Ok g E i RX5) (hc : 5 ∈ E.2.1) (hd : decode i.2.1 pc = .ok (.getfield 21, 3)) (k : mm_J g E i post (pc + 3) lv (.ref (E.1 28) :: rest) M) : mm_J g E i post pc lv (.ref (E.1 5) :: rest) M := jr_get (c := 5) (ci := 5) (k := 3) (C := RX5) (T := TX5) (N := 7) hg hc inlX5 rfl rfl (by decide) wm_5_8 rfl hd k
theorem gf_X5_24 (hg : mm_Ok g E i RX5) (hc : 5 ∈ E.2.1) (hd : decode i.2.1 pc = .ok (.getfield 24, 3)) (k : mm_J g E i post (pc + 3) lv (.ref (E.1 29) :: rest) M) : mm_J g E i post pc lv (.ref (E.1 5) :: rest) M := jr_get (c := 5) (ci := 5) (k := 4) (C := RX5) (T := TX5) (N := 7) hg hc inlX5 rfl rfl (by decide) wm_5_9 rfl hd k
theorem gf_X5_31 (hg : mm_Ok g E i RX5) (hc : 5 ∈ E.2.1) (hd : decode i.2.1 pc = .ok (.getfield 31, 3)) (k : mm_J g E i post (pc + 3) lv (.int (M.1 5 5) :: rest) M) : mm_J g E i post pc lv (.ref (E.1 5) :: rest) M := jr_get (c := 5) (ci := 5) (k := 5) (C := RX5) (T := TX5) (N := 7) hg hc inlX5 rfl rfl (by decide) wm_5_14 rfl hd k
theorem pf_X5_31 (hg : mm_Ok g E i RX5) {x : Int32} (hc : 5 ∈ E.2.1) (hd : decode i.2.1 pc = .ok (.putfield 31, 3)) (k : mm_J g E i post (pc + 3) lv rest (mm_si M 5 (upd (M.1 5) 5 x))) : mm_J g E i post pc lv (.int x :: .ref (E.1 5) :: rest) M := jr_put (c := 5) (ci := 5) (k := 5) (C := RX5) (T := TX5) (N := 7) (ty0 := tyX5) (ty := .int) (M' := mm_si M 5 (upd (M.1 5) 5 x)) hg hc inlX5 tyX5_ok nmX5 rfl rfl (by decide) (Nat.le_of_ble_eq_true rfl) wm_5_14 rfl (tyX5_ok 5 (by decide)) rfl rfl rfl mm_si_o hd k
theorem gf_X5_35 (hg : mm_Ok g E i RX5) (hc : 5 ∈ E.2.1) (hd : decode i.2.1 pc = .ok (.getfield 35, 3)) (k : mm_J g E i post (pc + 3) lv (.int (M.1 5 6) :: rest) M) : mm_J g E i post pc lv (.ref (E.1 5) :: rest) M := jr_get (c := 5) (ci := 5) (k := 6) (C := RX5) (T := TX5) (N := 7) hg hc inlX5 rfl rfl (by decide) wm_5_15 rfl hd k
theorem pf_X5_35 (hg : mm_Ok g E i RX5) {x : Int32} (hb : x = nI 0 ∨ x = nI 1) (hc : 5 ∈ E.2.1) (hd : decode i.2.1 pc = .ok (.putfield 35, 3)) (k : mm_J g E i post (pc + 3) lv rest (mm_si M 5 (upd (M.1 5) 6 x))) : mm_J g E i post pc lv (.int x :: .ref (E.1 5) :: rest) M := jr_put (c := 5) (ci := 5) (k := 6) (C := RX5) (T := TX5) (N := 7) (ty0 := tyX5) (ty := .boolean) (M' := mm_si M 5 (upd (M.1 5) 6 x)) hg hc inlX5 tyX5_ok nmX5 rfl rfl (by decide) (Nat.le_of_ble_eq_true rfl) wm_5_15 rfl (tyX5_ok 6 (by decide)) (by rcases hb with rfl | rfl <;> decide) (by rcases hb with rfl | rfl <;> decide) rfl mm_si_o hd k
theorem gf_X6_9 (hg : mm_Ok g E i RX6) (hc : 6 ∈ E.2.1) (hd : decode i.2.1 pc = .ok (.getfield 9, 3)) (k : mm_J g E i post (pc + 3) lv (.ref (E.1 30) :: rest) M) : mm_J g E i post pc lv (.ref (E.1 6) :: rest) M := jr_get (c := 6) (ci := 6) (k := 0) (C := RX6) (T := TX6) (N := 7) hg hc inlX6 rfl rfl (by decide) wm_4_15 rfl hd k
theorem gf_X6_15 (hg : mm_Ok g E i RX6) (hc : 6 ∈ E.2.1) (hd : decode i.2.1 pc = .ok (.getfield 15, 3)) (k : mm_J g E i post (pc + 3) lv (.ref (E.1 31) :: rest) M) : mm_J g E i post pc lv (.ref (E.1 6) :: rest) M := jr_get (c := 6) (ci := 6) (k := 1) (C := RX6) (T := TX6) (N := 7) hg hc inlX6 rfl rfl (by decide) wm_4_16 rfl hd k
theorem gf_X6_18 (hg : mm_Ok g E i RX6) (hc : 6 ∈ E.2.1) (hd : decode i.2.1 pc = .ok (.getfield 18, 3)) (k : mm_J g E i post (pc + 3) lv (.ref (E.1 32) :: rest) M) : mm_J g E i post pc lv (.ref (E.1 6) :: rest) M := jr_get (c := 6) (ci := 6) (k := 2) (C := RX6) (T := TX6) (N := 7) hg hc inlX6 rfl rfl (by decide) wm_4_17 rfl hd k
theorem gf_X6_21 (hg : mm_Ok g E i RX6) (hc : 6 ∈ E.2.1) (hd : decode i.2.1 pc = .ok (.getfield 21, 3)) (k : mm_J g E i post (pc + 3) lv (.ref (E.1 33) :: rest) M) : mm_J g E i post pc lv (.ref (E.1 6) :: rest) M := jr_get (c := 6) (ci := 6) (k := 3) (C := RX6) (T := TX6) (N := 7) hg hc inlX6 rfl rfl (by decide) wm_4_19 rfl hd k
theorem gf_X6_25 (hg : mm_Ok g E i RX6) (hc : 6 ∈ E.2.1) (hd : decode i.2.1 pc = .ok (.getfield 25, 3)) (k : mm_J g E i post (pc + 3) lv (.ref (E.1 34) :: rest) M) : mm_J g E i post pc lv (.ref (E.1 6) :: rest) M := jr_get (c := 6) (ci := 6) (k := 4) (C := RX6) (T := TX6) (N := 7) hg hc inlX6 rfl rfl (by decide) wm_4_20 rfl hd k
theorem gf_X6_31 (hg : mm_Ok g E i RX6) (hc : 6 ∈ E.2.1) (hd : decode i.2.1 pc = .ok (.getfield 31, 3)) (k : mm_J g E i post (pc + 3) lv (.int (M.1 6 6) :: rest) M) : mm_J g E i post pc lv (.ref (E.1 6) :: rest) M := jr_get (c := 6) (ci := 6) (k := 6) (C := RX6) (T := TX6) (N := 7) hg hc inlX6 rfl rfl (by decide) wm_22_2 rfl hd k
theorem pf_X6_31 (hg : mm_Ok g E i RX6) {x : Int32} (hc : 6 ∈ E.2.1) (hd : decode i.2.1 pc = .ok (.putfield 31, 3)) (k : mm_J g E i post (pc + 3) lv rest (mm_si M 6 (upd (M.1 6) 6 x))) : mm_J g E i post pc lv (.int x :: .ref (E.1 6) :: rest) M := jr_put (c := 6) (ci := 6) (k := 6) (C := RX6) (T := TX6) (N := 7) (ty0 := tyX6) (ty := .int) (M' := mm_si M 6 (upd (M.1 6) 6 x)) hg hc inlX6 tyX6_ok nmX6 rfl rfl (by decide) (Nat.le_of_ble_eq_true rfl) wm_22_2 rfl (tyX6_ok 6 (by decide)) rfl rfl rfl mm_si_o hd k
theorem gf_X6_53 (hg : mm_Ok g E i RX6) (hc : 6 ∈ E.2.1) (hd : decode i.2.1 pc = .ok (.getfield 53, 3)) (k : mm_J g E i post (pc + 3) lv (.int (M.1 6 5) :: rest) M) : mm_J g E i post pc lv (.ref (E.1 6) :: rest) M := jr_get (c := 6) (ci := 6) (k := 5) (C := RX6) (T := TX6) (N := 7) hg hc inlX6 rfl rfl (by decide) wm_32_19 rfl hd k
theorem pf_X6_53 (hg : mm_Ok g E i RX6) {x : Int32} (hb : x = nI 0 ∨ x = nI 1) (hc : 6 ∈ E.2.1) (hd : decode i.2.1 pc = .ok (.putfield 53, 3)) (k : mm_J g E i post (pc + 3) lv rest (mm_si M 6 (upd (M.1 6) 5 x))) : mm_J g E i post pc lv (.int x :: .ref (E.1 6) :: rest) M := jr_put (c := 6) (ci := 6) (k := 5) (C := RX6) (T := TX6) (N := 7) (ty0 := tyX6) (ty := .boolean) (M' := mm_si M 6 (upd (M.1 6) 5 x)) hg hc inlX6 tyX6_ok nmX6 rfl rfl (by decide) (Nat.le_of_ble_eq_true rfl) wm_32_19 rfl (tyX6_ok 5 (by decide)) (by rcases hb with rfl | rfl <;> decide) (by rcases hb with rfl | rfl <;> decide) rfl mm_si_o hd k
theorem gf_X7_10 (hg : mm_Ok g E i RX7) (hc : 7 ∈ E.2.1) (hd : decode i.2.1 pc = .ok (.getfield 10, 3)) (k : mm_J g E i post (pc + 3) lv (.ref (E.1 1) :: rest) M) : mm_J g E i post pc lv (.ref (E.1 7) :: rest) M := jr_get (c := 7) (ci := 7) (k := 0) (C := RX7) (T := TX7) (N := 7) hg hc inlX7 rfl rfl (by decide) wm_1_16 rfl hd k
theorem gf_X7_19 (hg : mm_Ok g E i RX7) (hc : 7 ∈ E.2.1) (hd : decode i.2.1 pc = .ok (.getfield 19, 3)) (k : mm_J g E i post (pc + 3) lv (.ref (E.1 0) :: rest) M) : mm_J g E i post pc lv (.ref (E.1 7) :: rest) M := jr_get (c := 7) (ci := 7) (k := 1) (C := RX7) (T := TX7) (N := 7) hg hc inlX7 rfl rfl (by decide) wm_1_20 rfl hd k
theorem gf_X7_26 (hg : mm_Ok g E i RX7) (hc : 7 ∈ E.2.1) (hd : decode i.2.1 pc = .ok (.getfield 26, 3)) (k : mm_J g E i post (pc + 3) lv (.ref (E.1 4) :: rest) M) : mm_J g E i post pc lv (.ref (E.1 7) :: rest) M := jr_get (c := 7) (ci := 7) (k := 2) (C := RX7) (T := TX7) (N := 7) hg hc inlX7 rfl rfl (by decide) wm_2_0 rfl hd k
theorem gf_X7_33 (hg : mm_Ok g E i RX7) (hc : 7 ∈ E.2.1) (hd : decode i.2.1 pc = .ok (.getfield 33, 3)) (k : mm_J g E i post (pc + 3) lv (.ref (E.1 2) :: rest) M) : mm_J g E i post pc lv (.ref (E.1 7) :: rest) M := jr_get (c := 7) (ci := 7) (k := 3) (C := RX7) (T := TX7) (N := 7) hg hc inlX7 rfl rfl (by decide) wm_2_4 rfl hd k
theorem gf_X7_40 (hg : mm_Ok g E i RX7) (hc : 7 ∈ E.2.1) (hd : decode i.2.1 pc = .ok (.getfield 40, 3)) (k : mm_J g E i post (pc + 3) lv (.ref (E.1 3) :: rest) M) : mm_J g E i post pc lv (.ref (E.1 7) :: rest) M := jr_get (c := 7) (ci := 7) (k := 4) (C := RX7) (T := TX7) (N := 7) hg hc inlX7 rfl rfl (by decide) wm_2_8 rfl hd k
theorem gf_X7_47 (hg : mm_Ok g E i RX7) (hc : 7 ∈ E.2.1) (hd : decode i.2.1 pc = .ok (.getfield 47, 3)) (k : mm_J g E i post (pc + 3) lv (.ref (E.1 6) :: rest) M) : mm_J g E i post pc lv (.ref (E.1 7) :: rest) M := jr_get (c := 7) (ci := 7) (k := 5) (C := RX7) (T := TX7) (N := 7) hg hc inlX7 rfl rfl (by decide) wm_2_12 rfl hd k
theorem gf_X7_54 (hg : mm_Ok g E i RX7) (hc : 7 ∈ E.2.1) (hd : decode i.2.1 pc = .ok (.getfield 54, 3)) (k : mm_J g E i post (pc + 3) lv (.ref (E.1 5) :: rest) M) : mm_J g E i post pc lv (.ref (E.1 7) :: rest) M := jr_get (c := 7) (ci := 7) (k := 6) (C := RX7) (T := TX7) (N := 7) hg hc inlX7 rfl rfl (by decide) wm_2_16 rfl hd k
theorem gf_X8_7 (hg : mm_Ok g E i RX8) (hc : 35 ∈ E.2.1) (hd : decode i.2.1 pc = .ok (.getfield 7, 3)) (k : mm_J g E i post (pc + 3) lv (.ref (E.1 36) :: rest) M) : mm_J g E i post pc lv (.ref (E.1 35) :: rest) M := jr_get (c := 35) (ci := 8) (k := 0) (C := RX8) (T := TX8) (N := 37) hg hc inlX8 rfl rfl (by decide) wm_5_20 rfl hd k
theorem gf_X8_13 (hg : mm_Ok g E i RX8) (hc : 35 ∈ E.2.1) (hd : decode i.2.1 pc = .ok (.getfield 13, 3)) (k : mm_J g E i post (pc + 3) lv (.ref (E.1 37) :: rest) M) : mm_J g E i post pc lv (.ref (E.1 35) :: rest) M := jr_get (c := 35) (ci := 8) (k := 1) (C := RX8) (T := TX8) (N := 37) hg hc inlX8 rfl rfl (by decide) wm_5_21 rfl hd k
theorem gf_X8_16 (hg : mm_Ok g E i RX8) (hc : 35 ∈ E.2.1) (hd : decode i.2.1 pc = .ok (.getfield 16, 3)) (k : mm_J g E i post (pc + 3) lv (.ref (E.1 38) :: rest) M) : mm_J g E i post pc lv (.ref (E.1 35) :: rest) M := jr_get (c := 35) (ci := 8) (k := 2) (C := RX8) (T := TX8) (N := 37) hg hc inlX8 rfl rfl (by decide) wm_5_22 rfl hd k
theorem gf_X8_19 (hg : mm_Ok g E i RX8) (hc : 35 ∈ E.2.1) (hd : decode i.2.1 pc = .ok (.getfield 19, 3)) (k : mm_J g E i post (pc + 3) lv (.int (M.1 35 8) :: rest) M) : mm_J g E i post pc lv (.ref (E.1 35) :: rest) M := jr_get (c := 35) (ci := 8) (k := 8) (C := RX8) (T := TX8) (N := 37) hg hc inlX8 rfl rfl (by decide) wm_5_23 rfl hd k
theorem pf_X8_19 (hg : mm_Ok g E i RX8) {x : Int32} (hc : 35 ∈ E.2.1) (hd : decode i.2.1 pc = .ok (.putfield 19, 3)) (k : mm_J g E i post (pc + 3) lv rest (mm_si M 35 (upd (M.1 35) 8 x))) : mm_J g E i post pc lv (.int x :: .ref (E.1 35) :: rest) M := jr_put (c := 35) (ci := 8) (k := 8) (C := RX8) (T := TX8) (N := 37) (ty0 := tyX8) (ty := .int) (M' := mm_si M 35 (upd (M.1 35) 8 x)) hg hc inlX8 tyX8_ok nmX8 rfl rfl (by decide) (Nat.le_of_ble_eq_true rfl) wm_5_23 rfl (tyX8_ok 8 (by decide)) rfl rfl rfl mm_si_o hd k
theorem gf_X8_23 (hg : mm_Ok g E i RX8) (hc : 35 ∈ E.2.1) (hd : decode i.2.1 pc = .ok (.getfield 23, 3)) (k : mm_J g E i post (pc + 3) lv (.ref (E.1 39) :: rest) M) : mm_J g E i post pc lv (.ref (E.1 35) :: rest) M := jr_get (c := 35) (ci := 8) (k := 10) (C := RX8) (T := TX8) (N := 37) hg hc inlX8 rfl rfl (by decide) wm_6_0 rfl hd k
theorem gf_X8_26 (hg : mm_Ok g E i RX8) (hc : 35 ∈ E.2.1) (hd : decode i.2.1 pc = .ok (.getfield 26, 3)) (k : mm_J g E i post (pc + 3) lv (.ref (E.1 40) :: rest) M) : mm_J g E i post pc lv (.ref (E.1 35) :: rest) M := jr_get (c := 35) (ci := 8) (k := 11) (C := RX8) (T := TX8) (N := 37) hg hc inlX8 rfl rfl (by decide) wm_6_1 rfl hd k
theorem gf_X8_29 (hg : mm_Ok g E i RX8) (hc : 35 ∈ E.2.1) (hd : decode i.2.1 pc = .ok (.getfield 29, 3)) (k : mm_J g E i post (pc + 3) lv (.ref (E.1 41) :: rest) M) : mm_J g E i post pc lv (.ref (E.1 35) :: rest) M := jr_get (c := 35) (ci := 8) (k := 12) (C := RX8) (T := TX8) (N := 37) hg hc inlX8 rfl rfl (by decide) wm_6_2 rfl hd k
theorem gf_X8_32 (hg : mm_Ok g E i RX8) (hc : 35 ∈ E.2.1) (hd : decode i.2.1 pc = .ok (.getfield 32, 3)) (k : mm_J g E i post (pc + 3) lv (.ref (E.1 42) :: rest) M) : mm_J g E i post pc lv (.ref (E.1 35) :: rest) M := jr_get (c := 35) (ci := 8) (k := 13) (C := RX8) (T := TX8) (N := 37) hg hc inlX8 rfl rfl (by decide) wm_6_3 rfl hd k
theorem gf_X8_36 (hg : mm_Ok g E i RX8) (hc : 35 ∈ E.2.1) (hd : decode i.2.1 pc = .ok (.getfield 36, 3)) (k : mm_J g E i post (pc + 3) lv (.ref (E.1 43) :: rest) M) : mm_J g E i post pc lv (.ref (E.1 35) :: rest) M := jr_get (c := 35) (ci := 8) (k := 14) (C := RX8) (T := TX8) (N := 37) hg hc inlX8 rfl rfl (by decide) wm_6_4 rfl hd k
theorem gf_X8_39 (hg : mm_Ok g E i RX8) (hc : 35 ∈ E.2.1) (hd : decode i.2.1 pc = .ok (.getfield 39, 3)) (k : mm_J g E i post (pc + 3) lv (.ref (E.1 44) :: rest) M) : mm_J g E i post pc lv (.ref (E.1 35) :: rest) M := jr_get (c := 35) (ci := 8) (k := 16) (C := RX8) (T := TX8) (N := 37) hg hc inlX8 rfl rfl (by decide) wm_6_5 rfl hd k
theorem gf_X8_42 (hg : mm_Ok g E i RX8) (hc : 35 ∈ E.2.1) (hd : decode i.2.1 pc = .ok (.getfield 42, 3)) (k : mm_J g E i post (pc + 3) lv (.ref (E.1 45) :: rest) M) : mm_J g E i post pc lv (.ref (E.1 35) :: rest) M := jr_get (c := 35) (ci := 8) (k := 18) (C := RX8) (T := TX8) (N := 37) hg hc inlX8 rfl rfl (by decide) wm_6_6 rfl hd k
theorem gf_X8_45 (hg : mm_Ok g E i RX8) (hc : 35 ∈ E.2.1) (hd : decode i.2.1 pc = .ok (.getfield 45, 3)) (k : mm_J g E i post (pc + 3) lv (.ref (E.1 46) :: rest) M) : mm_J g E i post pc lv (.ref (E.1 35) :: rest) M := jr_get (c := 35) (ci := 8) (k := 19) (C := RX8) (T := TX8) (N := 37) hg hc inlX8 rfl rfl (by decide) wm_6_7 rfl hd k
theorem gf_X8_48 (hg : mm_Ok g E i RX8) (hc : 35 ∈ E.2.1) (hd : decode i.2.1 pc = .ok (.getfield 48, 3)) (k : mm_J g E i post (pc + 3) lv (.ref (E.1 47) :: rest) M) : mm_J g E i post pc lv (.ref (E.1 35) :: rest) M := jr_get (c := 35) (ci := 8) (k := 20) (C := RX8) (T := TX8) (N := 37) hg hc inlX8 rfl rfl (by decide) wm_6_8 rfl hd k
theorem gf_X8_51 (hg : mm_Ok g E i RX8) (hc : 35 ∈ E.2.1) (hd : decode i.2.1 pc = .ok (.getfield 51, 3)) (k : mm_J g E i post (pc + 3) lv (.ref (E.1 48) :: rest) M) : mm_J g E i post pc lv (.ref (E.1 35) :: rest) M := jr_get (c := 35) (ci := 8) (k := 22) (C := RX8) (T := TX8) (N := 37) hg hc inlX8 rfl rfl (by decide) wm_6_9 rfl hd k
theorem gf_X8_54 (hg : mm_Ok g E i RX8) (hc : 35 ∈ E.2.1) (hd : decode i.2.1 pc = .ok (.getfield 54, 3)) (k : mm_J g E i post (pc + 3) lv (.ref (E.1 49) :: rest) M) : mm_J g E i post pc lv (.ref (E.1 35) :: rest) M := jr_get (c := 35) (ci := 8) (k := 23) (C := RX8) (T := TX8) (N := 37) hg hc inlX8 rfl rfl (by decide) wm_6_10 rfl hd k
theorem gf_X8_57 (hg : mm_Ok g E i RX8) (hc : 35 ∈ E.2.1) (hd : decode i.2.1 pc = .ok (.getfield 57, 3)) (k : mm_J g E i post (pc + 3) lv (.ref (E.1 50) :: rest) M) : mm_J g E i post pc lv (.ref (E.1 35) :: rest) M := jr_get (c := 35) (ci := 8) (k := 24) (C := RX8) (T := TX8) (N := 37) hg hc inlX8 rfl rfl (by decide) wm_6_11 rfl hd k
theorem gf_X8_60 (hg : mm_Ok g E i RX8) (hc : 35 ∈ E.2.1) (hd : decode i.2.1 pc = .ok (.getfield 60, 3)) (k : mm_J g E i post (pc + 3) lv (.ref (E.1 51) :: rest) M) : mm_J g E i post pc lv (.ref (E.1 35) :: rest) M := jr_get (c := 35) (ci := 8) (k := 26) (C := RX8) (T := TX8) (N := 37) hg hc inlX8 rfl rfl (by decide) wm_6_12 rfl hd k
theorem gf_X8_64 (hg : mm_Ok g E i RX8) (hc : 35 ∈ E.2.1) (hd : decode i.2.1 pc = .ok (.getfield 64, 3)) (k : mm_J g E i post (pc + 3) lv (.ref (E.1 52) :: rest) M) : mm_J g E i post pc lv (.ref (E.1 35) :: rest) M := jr_get (c := 35) (ci := 8) (k := 28) (C := RX8) (T := TX8) (N := 37) hg hc inlX8 rfl rfl (by decide) wm_6_13 rfl hd k
theorem gf_X8_67 (hg : mm_Ok g E i RX8) (hc : 35 ∈ E.2.1) (hd : decode i.2.1 pc = .ok (.getfield 67, 3)) (k : mm_J g E i post (pc + 3) lv (.ref (E.1 53) :: rest) M) : mm_J g E i post pc lv (.ref (E.1 35) :: rest) M := jr_get (c := 35) (ci := 8) (k := 29) (C := RX8) (T := TX8) (N := 37) hg hc inlX8 rfl rfl (by decide) wm_6_14 rfl hd k
theorem gf_X8_70 (hg : mm_Ok g E i RX8) (hc : 35 ∈ E.2.1) (hd : decode i.2.1 pc = .ok (.getfield 70, 3)) (k : mm_J g E i post (pc + 3) lv (.ref (E.1 54) :: rest) M) : mm_J g E i post pc lv (.ref (E.1 35) :: rest) M := jr_get (c := 35) (ci := 8) (k := 30) (C := RX8) (T := TX8) (N := 37) hg hc inlX8 rfl rfl (by decide) wm_6_15 rfl hd k
theorem gf_X8_73 (hg : mm_Ok g E i RX8) (hc : 35 ∈ E.2.1) (hd : decode i.2.1 pc = .ok (.getfield 73, 3)) (k : mm_J g E i post (pc + 3) lv (.ref (E.1 55) :: rest) M) : mm_J g E i post pc lv (.ref (E.1 35) :: rest) M := jr_get (c := 35) (ci := 8) (k := 32) (C := RX8) (T := TX8) (N := 37) hg hc inlX8 rfl rfl (by decide) wm_6_16 rfl hd k
theorem gf_X8_76 (hg : mm_Ok g E i RX8) (hc : 35 ∈ E.2.1) (hd : decode i.2.1 pc = .ok (.getfield 76, 3)) (k : mm_J g E i post (pc + 3) lv (.ref (E.1 56) :: rest) M) : mm_J g E i post pc lv (.ref (E.1 35) :: rest) M := jr_get (c := 35) (ci := 8) (k := 33) (C := RX8) (T := TX8) (N := 37) hg hc inlX8 rfl rfl (by decide) wm_6_17 rfl hd k
theorem gf_X8_79 (hg : mm_Ok g E i RX8) (hc : 35 ∈ E.2.1) (hd : decode i.2.1 pc = .ok (.getfield 79, 3)) (k : mm_J g E i post (pc + 3) lv (.ref (E.1 57) :: rest) M) : mm_J g E i post pc lv (.ref (E.1 35) :: rest) M := jr_get (c := 35) (ci := 8) (k := 34) (C := RX8) (T := TX8) (N := 37) hg hc inlX8 rfl rfl (by decide) wm_6_18 rfl hd k
theorem gf_X8_82 (hg : mm_Ok g E i RX8) (hc : 35 ∈ E.2.1) (hd : decode i.2.1 pc = .ok (.getfield 82, 3)) (k : mm_J g E i post (pc + 3) lv (.ref (E.1 58) :: rest) M) : mm_J g E i post pc lv (.ref (E.1 35) :: rest) M := jr_get (c := 35) (ci := 8) (k := 35) (C := RX8) (T := TX8) (N := 37) hg hc inlX8 rfl rfl (by decide) wm_6_19 rfl hd k
theorem gf_X8_85 (hg : mm_Ok g E i RX8) (hc : 35 ∈ E.2.1) (hd : decode i.2.1 pc = .ok (.getfield 85, 3)) (k : mm_J g E i post (pc + 3) lv (.ref (E.1 59) :: rest) M) : mm_J g E i post pc lv (.ref (E.1 35) :: rest) M := jr_get (c := 35) (ci := 8) (k := 36) (C := RX8) (T := TX8) (N := 37) hg hc inlX8 rfl rfl (by decide) wm_6_20 rfl hd k
theorem gf_X8_95 (hg : mm_Ok g E i RX8) (hc : 35 ∈ E.2.1) (hd : decode i.2.1 pc = .ok (.getfield 95, 3)) (k : mm_J g E i post (pc + 3) lv (.int (M.1 35 31) :: rest) M) : mm_J g E i post pc lv (.ref (E.1 35) :: rest) M := jr_get (c := 35) (ci := 8) (k := 31) (C := RX8) (T := TX8) (N := 37) hg hc inlX8 rfl rfl (by decide) wm_6_21 rfl hd k
theorem pf_X8_95 (hg : mm_Ok g E i RX8) {x : Int32} (hc : 35 ∈ E.2.1) (hd : decode i.2.1 pc = .ok (.putfield 95, 3)) (k : mm_J g E i post (pc + 3) lv rest (mm_si M 35 (upd (M.1 35) 31 x))) : mm_J g E i post pc lv (.int x :: .ref (E.1 35) :: rest) M := jr_put (c := 35) (ci := 8) (k := 31) (C := RX8) (T := TX8) (N := 37) (ty0 := tyX8) (ty := .int) (M' := mm_si M 35 (upd (M.1 35) 31 x)) hg hc inlX8 tyX8_ok nmX8 rfl rfl (by decide) (Nat.le_of_ble_eq_true rfl) wm_6_21 rfl (tyX8_ok 31 (by decide)) rfl rfl rfl mm_si_o hd k
theorem gf_X8_104 (hg : mm_Ok g E i RX8) (hc : 35 ∈ E.2.1) (hd : decode i.2.1 pc = .ok (.getfield 104, 3)) (k : mm_J g E i post (pc + 3) lv (.int (M.1 35 3) :: rest) M) : mm_J g E i post pc lv (.ref (E.1 35) :: rest) M := jr_get (c := 35) (ci := 8) (k := 3) (C := RX8) (T := TX8) (N := 37) hg hc inlX8 rfl rfl (by decide) wm_11_7 rfl hd k
theorem pf_X8_104 (hg : mm_Ok g E i RX8) {x : Int32} (hc : 35 ∈ E.2.1) (hd : decode i.2.1 pc = .ok (.putfield 104, 3)) (k : mm_J g E i post (pc + 3) lv rest (mm_si M 35 (upd (M.1 35) 3 x))) : mm_J g E i post pc lv (.int x :: .ref (E.1 35) :: rest) M := jr_put (c := 35) (ci := 8) (k := 3) (C := RX8) (T := TX8) (N := 37) (ty0 := tyX8) (ty := .int) (M' := mm_si M 35 (upd (M.1 35) 3 x)) hg hc inlX8 tyX8_ok nmX8 rfl rfl (by decide) (Nat.le_of_ble_eq_true rfl) wm_11_7 rfl (tyX8_ok 3 (by decide)) rfl rfl rfl mm_si_o hd k
theorem gf_X8_109 (hg : mm_Ok g E i RX8) (hc : 35 ∈ E.2.1) (hd : decode i.2.1 pc = .ok (.getfield 109, 3)) (k : mm_J g E i post (pc + 3) lv (.int (M.1 35 4) :: rest) M) : mm_J g E i post pc lv (.ref (E.1 35) :: rest) M := jr_get (c := 35) (ci := 8) (k := 4) (C := RX8) (T := TX8) (N := 37) hg hc inlX8 rfl rfl (by decide) wm_16_8 rfl hd k
theorem pf_X8_109 (hg : mm_Ok g E i RX8) {x : Int32} (hc : 35 ∈ E.2.1) (hd : decode i.2.1 pc = .ok (.putfield 109, 3)) (k : mm_J g E i post (pc + 3) lv rest (mm_si M 35 (upd (M.1 35) 4 x))) : mm_J g E i post pc lv (.int x :: .ref (E.1 35) :: rest) M := jr_put (c := 35) (ci := 8) (k := 4) (C := RX8) (T := TX8) (N := 37) (ty0 := tyX8) (ty := .int) (M' := mm_si M 35 (upd (M.1 35) 4 x)) hg hc inlX8 tyX8_ok nmX8 rfl rfl (by decide) (Nat.le_of_ble_eq_true rfl) wm_16_8 rfl (tyX8_ok 4 (by decide)) rfl rfl rfl mm_si_o hd k
theorem gf_X8_112 (hg : mm_Ok g E i RX8) (hc : 35 ∈ E.2.1) (hd : decode i.2.1 pc = .ok (.getfield 112, 3)) (k : mm_J g E i post (pc + 3) lv (.int (M.1 35 7) :: rest) M) : mm_J g E i post pc lv (.ref (E.1 35) :: rest) M := jr_get (c := 35) (ci := 8) (k := 7) (C := RX8) (T := TX8) (N := 37) hg hc inlX8 rfl rfl (by decide) wm_16_9 rfl hd k
theorem pf_X8_112 (hg : mm_Ok g E i RX8) {x : Int32} (hc : 35 ∈ E.2.1) (hd : decode i.2.1 pc = .ok (.putfield 112, 3)) (k : mm_J g E i post (pc + 3) lv rest (mm_si M 35 (upd (M.1 35) 7 x))) : mm_J g E i post pc lv (.int x :: .ref (E.1 35) :: rest) M := jr_put (c := 35) (ci := 8) (k := 7) (C := RX8) (T := TX8) (N := 37) (ty0 := tyX8) (ty := .int) (M' := mm_si M 35 (upd (M.1 35) 7 x)) hg hc inlX8 tyX8_ok nmX8 rfl rfl (by decide) (Nat.le_of_ble_eq_true rfl) wm_16_9 rfl (tyX8_ok 7 (by decide)) rfl rfl rfl mm_si_o hd k
theorem gf_X8_115 (hg : mm_Ok g E i RX8) (hc : 35 ∈ E.2.1) (hd : decode i.2.1 pc = .ok (.getfield 115, 3)) (k : mm_J g E i post (pc + 3) lv (.int (M.1 35 6) :: rest) M) : mm_J g E i post pc lv (.ref (E.1 35) :: rest) M := jr_get (c := 35) (ci := 8) (k := 6) (C := RX8) (T := TX8) (N := 37) hg hc inlX8 rfl rfl (by decide) wm_16_13 rfl hd k
theorem pf_X8_115 (hg : mm_Ok g E i RX8) {x : Int32} (hc : 35 ∈ E.2.1) (hd : decode i.2.1 pc = .ok (.putfield 115, 3)) (k : mm_J g E i post (pc + 3) lv rest (mm_si M 35 (upd (M.1 35) 6 x))) : mm_J g E i post pc lv (.int x :: .ref (E.1 35) :: rest) M := jr_put (c := 35) (ci := 8) (k := 6) (C := RX8) (T := TX8) (N := 37) (ty0 := tyX8) (ty := .int) (M' := mm_si M 35 (upd (M.1 35) 6 x)) hg hc inlX8 tyX8_ok nmX8 rfl rfl (by decide) (Nat.le_of_ble_eq_true rfl) wm_16_13 rfl (tyX8_ok 6 (by decide)) rfl rfl rfl mm_si_o hd k
theorem gf_X8_118 (hg : mm_Ok g E i RX8) (hc : 35 ∈ E.2.1) (hd : decode i.2.1 pc = .ok (.getfield 118, 3)) (k : mm_J g E i post (pc + 3) lv (.int (M.1 35 5) :: rest) M) : mm_J g E i post pc lv (.ref (E.1 35) :: rest) M := jr_get (c := 35) (ci := 8) (k := 5) (C := RX8) (T := TX8) (N := 37) hg hc inlX8 rfl rfl (by decide) wm_16_10 rfl hd k
theorem pf_X8_118 (hg : mm_Ok g E i RX8) {x : Int32} (hc : 35 ∈ E.2.1) (hd : decode i.2.1 pc = .ok (.putfield 118, 3)) (k : mm_J g E i post (pc + 3) lv rest (mm_si M 35 (upd (M.1 35) 5 x))) : mm_J g E i post pc lv (.int x :: .ref (E.1 35) :: rest) M := jr_put (c := 35) (ci := 8) (k := 5) (C := RX8) (T := TX8) (N := 37) (ty0 := tyX8) (ty := .int) (M' := mm_si M 35 (upd (M.1 35) 5 x)) hg hc inlX8 tyX8_ok nmX8 rfl rfl (by decide) (Nat.le_of_ble_eq_true rfl) wm_16_10 rfl (tyX8_ok 5 (by decide)) rfl rfl rfl mm_si_o hd k
theorem gf_X8_154 (hg : mm_Ok g E i RX8) (hc : 35 ∈ E.2.1) (hd : decode i.2.1 pc = .ok (.getfield 154, 3)) (k : mm_J g E i post (pc + 3) lv (.int (M.1 35 9) :: rest) M) : mm_J g E i post pc lv (.ref (E.1 35) :: rest) M := jr_get (c := 35) (ci := 8) (k := 9) (C := RX8) (T := TX8) (N := 37) hg hc inlX8 rfl rfl (by decide) wm_8_9 rfl hd k
theorem pf_X8_154 (hg : mm_Ok g E i RX8) {x : Int32} (hc : 35 ∈ E.2.1) (hd : decode i.2.1 pc = .ok (.putfield 154, 3)) (k : mm_J g E i post (pc + 3) lv rest (mm_si M 35 (upd (M.1 35) 9 x))) : mm_J g E i post pc lv (.int x :: .ref (E.1 35) :: rest) M := jr_put (c := 35) (ci := 8) (k := 9) (C := RX8) (T := TX8) (N := 37) (ty0 := tyX8) (ty := .int) (M' := mm_si M 35 (upd (M.1 35) 9 x)) hg hc inlX8 tyX8_ok nmX8 rfl rfl (by decide) (Nat.le_of_ble_eq_true rfl) wm_8_9 rfl (tyX8_ok 9 (by decide)) rfl rfl rfl mm_si_o hd k
theorem gf_X8_165 (hg : mm_Ok g E i RX8) (hc : 35 ∈ E.2.1) (hd : decode i.2.1 pc = .ok (.getfield 165, 3)) (k : mm_J g E i post (pc + 3) lv (.int (M.1 35 15) :: rest) M) : mm_J g E i post pc lv (.ref (E.1 35) :: rest) M := jr_get (c := 35) (ci := 8) (k := 15) (C := RX8) (T := TX8) (N := 37) hg hc inlX8 rfl rfl (by decide) wm_10_15 rfl hd k
theorem pf_X8_165 (hg : mm_Ok g E i RX8) {x : Int32} (hc : 35 ∈ E.2.1) (hd : decode i.2.1 pc = .ok (.putfield 165, 3)) (k : mm_J g E i post (pc + 3) lv rest (mm_si M 35 (upd (M.1 35) 15 x))) : mm_J g E i post pc lv (.int x :: .ref (E.1 35) :: rest) M := jr_put (c := 35) (ci := 8) (k := 15) (C := RX8) (T := TX8) (N := 37) (ty0 := tyX8) (ty := .int) (M' := mm_si M 35 (upd (M.1 35) 15 x)) hg hc inlX8 tyX8_ok nmX8 rfl rfl (by decide) (Nat.le_of_ble_eq_true rfl) wm_10_15 rfl (tyX8_ok 15 (by decide)) rfl rfl rfl mm_si_o hd k
theorem gf_X8_174 (hg : mm_Ok g E i RX8) (hc : 35 ∈ E.2.1) (hd : decode i.2.1 pc = .ok (.getfield 174, 3)) (k : mm_J g E i post (pc + 3) lv (.int (M.1 35 17) :: rest) M) : mm_J g E i post pc lv (.ref (E.1 35) :: rest) M := jr_get (c := 35) (ci := 8) (k := 17) (C := RX8) (T := TX8) (N := 37) hg hc inlX8 rfl rfl (by decide) wm_22_7 rfl hd k
theorem pf_X8_174 (hg : mm_Ok g E i RX8) {x : Int32} (hc : 35 ∈ E.2.1) (hd : decode i.2.1 pc = .ok (.putfield 174, 3)) (k : mm_J g E i post (pc + 3) lv rest (mm_si M 35 (upd (M.1 35) 17 x))) : mm_J g E i post pc lv (.int x :: .ref (E.1 35) :: rest) M := jr_put (c := 35) (ci := 8) (k := 17) (C := RX8) (T := TX8) (N := 37) (ty0 := tyX8) (ty := .int) (M' := mm_si M 35 (upd (M.1 35) 17 x)) hg hc inlX8 tyX8_ok nmX8 rfl rfl (by decide) (Nat.le_of_ble_eq_true rfl) wm_22_7 rfl (tyX8_ok 17 (by decide)) rfl rfl rfl mm_si_o hd k
theorem gf_X8_204 (hg : mm_Ok g E i RX8) (hc : 35 ∈ E.2.1) (hd : decode i.2.1 pc = .ok (.getfield 204, 3)) (k : mm_J g E i post (pc + 3) lv (.int (M.1 35 25) :: rest) M) : mm_J g E i post pc lv (.ref (E.1 35) :: rest) M := jr_get (c := 35) (ci := 8) (k := 25) (C := RX8) (T := TX8) (N := 37) hg hc inlX8 rfl rfl (by decide) wm_22_8 rfl hd k
theorem pf_X8_204 (hg : mm_Ok g E i RX8) {x : Int32} (hc : 35 ∈ E.2.1) (hd : decode i.2.1 pc = .ok (.putfield 204, 3)) (k : mm_J g E i post (pc + 3) lv rest (mm_si M 35 (upd (M.1 35) 25 x))) : mm_J g E i post pc lv (.int x :: .ref (E.1 35) :: rest) M := jr_put (c := 35) (ci := 8) (k := 25) (C := RX8) (T := TX8) (N := 37) (ty0 := tyX8) (ty := .int) (M' := mm_si M 35 (upd (M.1 35) 25 x)) hg hc inlX8 tyX8_ok nmX8 rfl rfl (by decide) (Nat.le_of_ble_eq_true rfl) wm_22_8 rfl (tyX8_ok 25 (by decide)) rfl rfl rfl mm_si_o hd k
theorem gf_X8_207 (hg : mm_Ok g E i RX8) (hc : 35 ∈ E.2.1) (hd : decode i.2.1 pc = .ok (.getfield 207, 3)) (k : mm_J g E i post (pc + 3) lv (.int (M.1 35 21) :: rest) M) : mm_J g E i post pc lv (.ref (E.1 35) :: rest) M := jr_get (c := 35) (ci := 8) (k := 21) (C := RX8) (T := TX8) (N := 37) hg hc inlX8 rfl rfl (by decide) wm_24_23 rfl hd k
theorem pf_X8_207 (hg : mm_Ok g E i RX8) {x : Int32} (hc : 35 ∈ E.2.1) (hd : decode i.2.1 pc = .ok (.putfield 207, 3)) (k : mm_J g E i post (pc + 3) lv rest (mm_si M 35 (upd (M.1 35) 21 x))) : mm_J g E i post pc lv (.int x :: .ref (E.1 35) :: rest) M := jr_put (c := 35) (ci := 8) (k := 21) (C := RX8) (T := TX8) (N := 37) (ty0 := tyX8) (ty := .int) (M' := mm_si M 35 (upd (M.1 35) 21 x)) hg hc inlX8 tyX8_ok nmX8 rfl rfl (by decide) (Nat.le_of_ble_eq_true rfl) wm_24_23 rfl (tyX8_ok 21 (by decide)) rfl rfl rfl mm_si_o hd k
theorem gf_X8_249 (hg : mm_Ok g E i RX8) (hc : 35 ∈ E.2.1) (hd : decode i.2.1 pc = .ok (.getfield 249, 3)) (k : mm_J g E i post (pc + 3) lv (.int (M.1 35 27) :: rest) M) : mm_J g E i post pc lv (.ref (E.1 35) :: rest) M := jr_get (c := 35) (ci := 8) (k := 27) (C := RX8) (T := TX8) (N := 37) hg hc inlX8 rfl rfl (by decide) wm_36_3 rfl hd k
theorem pf_X8_249 (hg : mm_Ok g E i RX8) {x : Int32} (hb : x = nI 0 ∨ x = nI 1) (hc : 35 ∈ E.2.1) (hd : decode i.2.1 pc = .ok (.putfield 249, 3)) (k : mm_J g E i post (pc + 3) lv rest (mm_si M 35 (upd (M.1 35) 27 x))) : mm_J g E i post pc lv (.int x :: .ref (E.1 35) :: rest) M := jr_put (c := 35) (ci := 8) (k := 27) (C := RX8) (T := TX8) (N := 37) (ty0 := tyX8) (ty := .boolean) (M' := mm_si M 35 (upd (M.1 35) 27 x)) hg hc inlX8 tyX8_ok nmX8 rfl rfl (by decide) (Nat.le_of_ble_eq_true rfl) wm_36_3 rfl (tyX8_ok 27 (by decide)) (by rcases hb with rfl | rfl <;> decide) (by rcases hb with rfl | rfl <;> decide) rfl mm_si_o hd k
theorem ac_8 (u : Nat → Int32) (v : Nat → Int64) : mm_cl E u v 8 = .inl (E.2.2.2.1.1, 8, .inl u) := rfl
theorem ac_9 (u : Nat → Int32) (v : Nat → Int64) : mm_cl E u v 9 = .inl (E.2.2.2.1.1, 8, .inl u) := rfl
theorem ac_10 (u : Nat → Int32) (v : Nat → Int64) : mm_cl E u v 10 = .inl (E.2.2.2.1.1, 160, .inl u) := rfl
theorem ac_11 (u : Nat → Int32) (v : Nat → Int64) : mm_cl E u v 11 = .inl (E.2.2.2.1.1, 8, .inl u) := rfl
theorem ac_12 (u : Nat → Int32) (v : Nat → Int64) : mm_cl E u v 12 = .inl (E.2.2.2.1.1, 200, .inl u) := rfl
theorem ac_13 (u : Nat → Int32) (v : Nat → Int64) : mm_cl E u v 13 = .inl (E.2.2.2.1.1, 200, .inl u) := rfl
theorem ac_14 (u : Nat → Int32) (v : Nat → Int64) : mm_cl E u v 14 = .inl (E.2.2.2.1.1, 200, .inl u) := rfl
theorem ac_15 (u : Nat → Int32) (v : Nat → Int64) : mm_cl E u v 15 = .inl (E.2.2.2.1.2.2, 200, .inl u) := rfl
theorem ac_16 (u : Nat → Int32) (v : Nat → Int64) : mm_cl E u v 16 = .inl (E.2.2.2.1.1, 192, .inl u) := rfl
theorem ac_17 (u : Nat → Int32) (v : Nat → Int64) : mm_cl E u v 17 = .inl (E.2.2.2.1.1, 24, .inl u) := rfl
theorem ac_18 (u : Nat → Int32) (v : Nat → Int64) : mm_cl E u v 18 = .inl (E.2.2.2.1.1, 24, .inl u) := rfl
theorem ac_19 (u : Nat → Int32) (v : Nat → Int64) : mm_cl E u v 19 = .inl (E.2.2.2.1.1, 8, .inl u) := rfl
theorem ac_20 (u : Nat → Int32) (v : Nat → Int64) : mm_cl E u v 20 = .inl (E.2.2.2.1.1, 24, .inl u) := rfl
theorem ac_21 (u : Nat → Int32) (v : Nat → Int64) : mm_cl E u v 21 = .inl (E.2.2.2.1.1, 24, .inl u) := rfl
theorem ac_22 (u : Nat → Int32) (v : Nat → Int64) : mm_cl E u v 22 = .inl (E.2.2.2.1.1, 24, .inl u) := rfl
theorem ac_23 (u : Nat → Int32) (v : Nat → Int64) : mm_cl E u v 23 = .inl (E.2.2.2.1.1, 24, .inl u) := rfl
theorem ac_24 (u : Nat → Int32) (v : Nat → Int64) : mm_cl E u v 24 = .inl (E.2.2.2.1.2.2, 24, .inl u) := rfl
theorem ac_25 (u : Nat → Int32) (v : Nat → Int64) : mm_cl E u v 25 = .inl (E.2.2.2.1.1, 8, .inl u) := rfl
theorem ac_26 (u : Nat → Int32) (v : Nat → Int64) : mm_cl E u v 26 = .inl (E.2.2.2.1.1, 6, .inl u) := rfl
theorem ac_27 (u : Nat → Int32) (v : Nat → Int64) : mm_cl E u v 27 = .inl (E.2.2.2.1.1, 256, .inl u) := rfl
theorem ac_28 (u : Nat → Int32) (v : Nat → Int64) : mm_cl E u v 28 = .inl (E.2.2.2.1.1, 256, .inl u) := rfl
theorem ac_29 (u : Nat → Int32) (v : Nat → Int64) : mm_cl E u v 29 = .inl (E.2.2.2.1.1, 256, .inl u) := rfl
theorem ac_30 (u : Nat → Int32) (v : Nat → Int64) : mm_cl E u v 30 = .inl (E.2.2.2.1.1, 72, .inl u) := rfl
theorem ac_31 (u : Nat → Int32) (v : Nat → Int64) : mm_cl E u v 31 = .inl (E.2.2.2.1.1, 96, .inl u) := rfl
theorem ac_32 (u : Nat → Int32) (v : Nat → Int64) : mm_cl E u v 32 = .inl (E.2.2.2.1.1, 3, .inl u) := rfl
theorem ac_33 (u : Nat → Int32) (v : Nat → Int64) : mm_cl E u v 33 = .inl (E.2.2.2.1.2.1, 72, .inr (.inl v)) := rfl
theorem ac_34 (u : Nat → Int32) (v : Nat → Int64) : mm_cl E u v 34 = .inl (E.2.2.2.1.1, 96, .inl u) := rfl
theorem ac_36 (u : Nat → Int32) (v : Nat → Int64) : mm_cl E u v 36 = .inl (E.2.2.2.1.1, 8, .inl u) := rfl
theorem ac_37 (u : Nat → Int32) (v : Nat → Int64) : mm_cl E u v 37 = .inl (E.2.2.2.1.1, 8, .inl u) := rfl
theorem ac_38 (u : Nat → Int32) (v : Nat → Int64) : mm_cl E u v 38 = .inl (E.2.2.2.1.1, 160, .inl u) := rfl
theorem ac_39 (u : Nat → Int32) (v : Nat → Int64) : mm_cl E u v 39 = .inl (E.2.2.2.1.1, 24, .inl u) := rfl
theorem ac_40 (u : Nat → Int32) (v : Nat → Int64) : mm_cl E u v 40 = .inl (E.2.2.2.1.1, 24, .inl u) := rfl
theorem ac_41 (u : Nat → Int32) (v : Nat → Int64) : mm_cl E u v 41 = .inl (E.2.2.2.1.1, 24, .inl u) := rfl
theorem ac_42 (u : Nat → Int32) (v : Nat → Int64) : mm_cl E u v 42 = .inl (E.2.2.2.1.2.2, 24, .inl u) := rfl
theorem ac_43 (u : Nat → Int32) (v : Nat → Int64) : mm_cl E u v 43 = .inl (E.2.2.2.1.1, 24, .inl u) := rfl
theorem ac_44 (u : Nat → Int32) (v : Nat → Int64) : mm_cl E u v 44 = .inl (E.2.2.2.1.1, 8, .inl u) := rfl
theorem ac_45 (u : Nat → Int32) (v : Nat → Int64) : mm_cl E u v 45 = .inl (E.2.2.2.1.1, 200, .inl u) := rfl
theorem ac_46 (u : Nat → Int32) (v : Nat → Int64) : mm_cl E u v 46 = .inl (E.2.2.2.1.1, 200, .inl u) := rfl
theorem ac_47 (u : Nat → Int32) (v : Nat → Int64) : mm_cl E u v 47 = .inl (E.2.2.2.1.1, 200, .inl u) := rfl
theorem ac_48 (u : Nat → Int32) (v : Nat → Int64) : mm_cl E u v 48 = .inl (E.2.2.2.1.1, 72, .inl u) := rfl
theorem ac_49 (u : Nat → Int32) (v : Nat → Int64) : mm_cl E u v 49 = .inl (E.2.2.2.1.1, 96, .inl u) := rfl
theorem ac_50 (u : Nat → Int32) (v : Nat → Int64) : mm_cl E u v 50 = .inl (E.2.2.2.1.1, 3, .inl u) := rfl
theorem ac_51 (u : Nat → Int32) (v : Nat → Int64) : mm_cl E u v 51 = .inl (E.2.2.2.1.2.1, 3, .inr (.inl v)) := rfl
theorem ac_52 (u : Nat → Int32) (v : Nat → Int64) : mm_cl E u v 52 = .inl (E.2.2.2.1.1, 3, .inl u) := rfl
theorem ac_53 (u : Nat → Int32) (v : Nat → Int64) : mm_cl E u v 53 = .inl (E.2.2.2.1.1, 12, .inl u) := rfl
theorem ac_54 (u : Nat → Int32) (v : Nat → Int64) : mm_cl E u v 54 = .inl (E.2.2.2.1.1, 3, .inl u) := rfl
theorem ac_55 (u : Nat → Int32) (v : Nat → Int64) : mm_cl E u v 55 = .inl (E.2.2.2.1.1, 8, .inl u) := rfl
theorem ac_56 (u : Nat → Int32) (v : Nat → Int64) : mm_cl E u v 56 = .inl (E.2.2.2.1.1, 6, .inl u) := rfl
theorem ac_57 (u : Nat → Int32) (v : Nat → Int64) : mm_cl E u v 57 = .inl (E.2.2.2.1.1, 256, .inl u) := rfl
theorem ac_58 (u : Nat → Int32) (v : Nat → Int64) : mm_cl E u v 58 = .inl (E.2.2.2.1.1, 256, .inl u) := rfl
theorem ac_59 (u : Nat → Int32) (v : Nat → Int64) : mm_cl E u v 59 = .inl (E.2.2.2.1.1, 256, .inl u) := rfl
end MFLD
abbrev mX0_begin : mm_I := (yX0_begin, cX0_begin, 3, (some .int), 0)
abbrev mX0_draw : mm_I := (yX0_draw, cX0_draw, 1, (some .int), 0)
abbrev mX0_drawKind : mm_I := (yX0_drawKind, cX0_drawKind, 1, (some .int), 1)
abbrev mX1_valueOf : mm_I := (yX1_valueOf, cX1_valueOf, 2, (some .int), 0)
abbrev mX1_textSize : mm_I := (yX1_textSize, cX1_textSize, 1, (some .int), 0)
abbrev mX1_faultPlace : mm_I := (yX1_faultPlace, cX1_faultPlace, 1, (some .int), 0)
abbrev mX1_append : mm_I := (yX1_append, cX1_append, 5, (some .int), 0)
abbrev mX1_takeText : mm_I := (yX1_takeText, cX1_takeText, 1, (some .int), 9)
abbrev mX1_takeReadValues : mm_I := (yX1_takeReadValues, cX1_takeReadValues, 4, (some .int), 1)
abbrev mX1_readText : mm_I := (yX1_readText, cX1_readText, 2, none, 8)
abbrev mX1_readClause : mm_I := (yX1_readClause, cX1_readClause, 3, none, 7)
abbrev mX1_readWord : mm_I := (yX1_readWord, cX1_readWord, 3, (some .int), 6)
abbrev mX1_readNumber : mm_I := (yX1_readNumber, cX1_readNumber, 4, (some .int), 1)
abbrev mX1_readEnd : mm_I := (yX1_readEnd, cX1_readEnd, 3, none, 1)
abbrev mX1_skipBlanks : mm_I := (yX1_skipBlanks, cX1_skipBlanks, 1, none, 1)
abbrev mX1_blame : mm_I := (yX1_blame, cX1_blame, 3, none, 0)
abbrev mX1_byteAt : mm_I := (yX1_byteAt, cX1_byteAt, 2, (some .int), 0)
abbrev mX1_isWord : mm_I := (yX1_isWord, cX1_isWord, 5, (some .boolean), 5)
abbrev mX1_isLetter : mm_I := (yX1_isLetter, cX1_isLetter, 1, (some .boolean), 0)
abbrev mX1_isFigure : mm_I := (yX1_isFigure, cX1_isFigure, 1, (some .boolean), 0)
abbrev mX1_isInBounds : mm_I := (yX1_isInBounds, cX1_isInBounds, 2, (some .boolean), 0)
abbrev mX1_wordOf : mm_I := (yX1_wordOf, cX1_wordOf, 1, (some (.object "java/lang/String")), 0)
abbrev mX2_add : mm_I := (yX2_add, cX2_add, 2, (some .int), 0)
abbrev mX2_size : mm_I := (yX2_size, cX2_size, 1, (some .int), 0)
abbrev mX2_has : mm_I := (yX2_has, cX2_has, 2, (some .boolean), 0)
abbrev mX2_sortOf : mm_I := (yX2_sortOf, cX2_sortOf, 2, (some .int), 1)
abbrev mX3_add : mm_I := (yX3_add, cX3_add, 5, (some .int), 1)
abbrev mX3_size : mm_I := (yX3_size, cX3_size, 1, (some .int), 0)
abbrev mX3_isFull : mm_I := (yX3_isFull, cX3_isFull, 1, (some .boolean), 0)
abbrev mX3_has : mm_I := (yX3_has, cX3_has, 2, (some .boolean), 0)
abbrev mX3_lookerOf : mm_I := (yX3_lookerOf, cX3_lookerOf, 2, (some .int), 1)
abbrev mX3_pictureOf : mm_I := (yX3_pictureOf, cX3_pictureOf, 2, (some .int), 1)
abbrev mX3_answerOf : mm_I := (yX3_answerOf, cX3_answerOf, 2, (some .int), 1)
abbrev mX3_counts : mm_I := (yX3_counts, cX3_counts, 2, (some .boolean), 1)
abbrev mX3_answerAt : mm_I := (yX3_answerAt, cX3_answerAt, 3, (some .int), 1)
abbrev mX3_howManyAt : mm_I := (yX3_howManyAt, cX3_howManyAt, 2, (some .int), 0)
abbrev mX3_greensAt : mm_I := (yX3_greensAt, cX3_greensAt, 2, (some .int), 0)
abbrev mX3_howManyBy : mm_I := (yX3_howManyBy, cX3_howManyBy, 2, (some .int), 0)
abbrev mX3_isCell : mm_I := (yX3_isCell, cX3_isCell, 2, (some .boolean), 0)
abbrev mX4_add : mm_I := (yX4_add, cX4_add, 7, (some .int), 0)
abbrev mX4_size : mm_I := (yX4_size, cX4_size, 1, (some .int), 0)
abbrev mX4_has : mm_I := (yX4_has, cX4_has, 2, (some .boolean), 0)
abbrev mX4_kindOf : mm_I := (yX4_kindOf, cX4_kindOf, 2, (some .int), 1)
abbrev mX4_farOf : mm_I := (yX4_farOf, cX4_farOf, 2, (some .int), 1)
abbrev mX4_depthOf : mm_I := (yX4_depthOf, cX4_depthOf, 2, (some .int), 1)
abbrev mX4_isKnown : mm_I := (yX4_isKnown, cX4_isKnown, 2, (some .boolean), 1)
abbrev mX4_originalOf : mm_I := (yX4_originalOf, cX4_originalOf, 2, (some .int), 1)
abbrev mX4_knownOnes : mm_I := (yX4_knownOnes, cX4_knownOnes, 3, (some .int), 2)
abbrev mX4_mirrors : mm_I := (yX4_mirrors, cX4_mirrors, 3, (some .int), 2)
abbrev mX5_restart : mm_I := (yX5_restart, cX5_restart, 3, (some .int), 0)
abbrev mX5_size : mm_I := (yX5_size, cX5_size, 1, (some .int), 0)
abbrev mX5_hasThing : mm_I := (yX5_hasThing, cX5_hasThing, 2, (some .boolean), 0)
abbrev mX5_changeWeight : mm_I := (yX5_changeWeight, cX5_changeWeight, 4, (some .int), 1)
abbrev mX5_changeSet : mm_I := (yX5_changeSet, cX5_changeSet, 4, (some .int), 0)
abbrev mX5_asksOf : mm_I := (yX5_asksOf, cX5_asksOf, 2, (some .int), 5)
abbrev mX5_firstOf : mm_I := (yX5_firstOf, cX5_firstOf, 2, (some .int), 5)
abbrev mX5_depthOf : mm_I := (yX5_depthOf, cX5_depthOf, 2, (some .int), 5)
abbrev mX5_wrongTurn : mm_I := (yX5_wrongTurn, cX5_wrongTurn, 6, (some .int), 5)
abbrev mX5_sideOf : mm_I := (yX5_sideOf, cX5_sideOf, 4, (some .int), 1)
abbrev mX5_plan : mm_I := (yX5_plan, cX5_plan, 2, none, 4)
abbrev mX5_planSet : mm_I := (yX5_planSet, cX5_planSet, 8, none, 3)
abbrev mX5_deeperSide : mm_I := (yX5_deeperSide, cX5_deeperSide, 3, (some .int), 2)
abbrev mX5_plannedAsks : mm_I := (yX5_plannedAsks, cX5_plannedAsks, 2, (some .int), 1)
abbrev mX5_plannedFirst : mm_I := (yX5_plannedFirst, cX5_plannedFirst, 2, (some .int), 1)
abbrev mX5_plannedDepth : mm_I := (yX5_plannedDepth, cX5_plannedDepth, 2, (some .int), 1)
abbrev mX5_weightOf : mm_I := (yX5_weightOf, cX5_weightOf, 4, (some .int), 1)
abbrev mX5_yesSetOf : mm_I := (yX5_yesSetOf, cX5_yesSetOf, 2, (some .int), 0)
abbrev mX5_isSet : mm_I := (yX5_isSet, cX5_isSet, 1, (some .boolean), 0)
abbrev mX6_rounds : mm_I := (yX6_rounds, cX6_rounds, 1, (some .int), 0)
abbrev mX6_oddsOf : mm_I := (yX6_oddsOf, cX6_oddsOf, 3, (some .int), 1)
abbrev mX6_greatestOddsOf : mm_I := (yX6_greatestOddsOf, cX6_greatestOddsOf, 3, (some .int), 1)
abbrev mX6_tableOf : mm_I := (yX6_tableOf, cX6_tableOf, 4, (some .int), 1)
abbrev mX6_skyOf : mm_I := (yX6_skyOf, cX6_skyOf, 2, (some .int), 0)
abbrev mX6_settle : mm_I := (yX6_settle, cX6_settle, 4, (some .int), 5)
abbrev mX6_begin : mm_I := (yX6_begin, cX6_begin, 2, none, 0)
abbrev mX6_findOdds : mm_I := (yX6_findOdds, cX6_findOdds, 4, none, 4)
abbrev mX6_weigh : mm_I := (yX6_weigh, cX6_weigh, 5, none, 2)
abbrev mX6_keepKnown : mm_I := (yX6_keepKnown, cX6_keepKnown, 4, none, 1)
abbrev mX6_keepShares : mm_I := (yX6_keepShares, cX6_keepShares, 6, none, 3)
abbrev mX6_shareOf : mm_I := (yX6_shareOf, cX6_shareOf, 5, (some .int), 2)
abbrev mX6_chanceOf : mm_I := (yX6_chanceOf, cX6_chanceOf, 3, (some .long), 1)
abbrev mX6_findTables : mm_I := (yX6_findTables, cX6_findTables, 3, none, 3)
abbrev mX6_addOdds : mm_I := (yX6_addOdds, cX6_addOdds, 5, none, 2)
abbrev mX6_keepTable : mm_I := (yX6_keepTable, cX6_keepTable, 4, none, 1)
abbrev mX6_findSky : mm_I := (yX6_findSky, cX6_findSky, 4, none, 3)
abbrev mX6_sumOfOdds : mm_I := (yX6_sumOfOdds, cX6_sumOfOdds, 5, (some .int), 2)
abbrev mX6_keep : mm_I := (yX6_keep, cX6_keep, 4, none, 0)
abbrev mX6_isOddsCell : mm_I := (yX6_isOddsCell, cX6_isOddsCell, 2, (some .boolean), 0)
abbrev mX6_isTableCell : mm_I := (yX6_isTableCell, cX6_isTableCell, 3, (some .boolean), 0)
abbrev mX6_tableCell : mm_I := (yX6_tableCell, cX6_tableCell, 3, (some .int), 0)
abbrev mX7_picture : mm_I := (yX7_picture, cX7_picture, 5, (some .int), 1)
abbrev mX7_mirror : mm_I := (yX7_mirror, cX7_mirror, 2, (some .int), 2)
abbrev mX7_looker : mm_I := (yX7_looker, cX7_looker, 2, (some .int), 1)
abbrev mX7_feed : mm_I := (yX7_feed, cX7_feed, 4, (some .int), 1)
abbrev mX7_read : mm_I := (yX7_read, cX7_read, 1, (some .int), 10)
abbrev mX7_fault : mm_I := (yX7_fault, cX7_fault, 1, (some .int), 1)
abbrev mX7_law : mm_I := (yX7_law, cX7_law, 2, (some .int), 1)
abbrev mX7_count : mm_I := (yX7_count, cX7_count, 2, (some .int), 4)
abbrev mX7_told : mm_I := (yX7_told, cX7_told, 3, (some .int), 3)
abbrev mX7_seed : mm_I := (yX7_seed, cX7_seed, 2, (some .int), 1)
abbrev mX7_look : mm_I := (yX7_look, cX7_look, 4, (some .int), 2)
abbrev mX7_says : mm_I := (yX7_says, cX7_says, 3, (some .int), 5)
abbrev mX7_about : mm_I := (yX7_about, cX7_about, 3, (some .int), 2)
abbrev mX7_next : mm_I := (yX7_next, cX7_next, 3, (some .int), 4)
abbrev mX7_evening : mm_I := (yX7_evening, cX7_evening, 6, (some .int), 6)
abbrev mX7_stays : mm_I := (yX7_stays, cX7_stays, 2, (some .int), 3)
abbrev mX7_reckon : mm_I := (yX7_reckon, cX7_reckon, 1, (some .int), 6)
abbrev mX7_odds : mm_I := (yX7_odds, cX7_odds, 3, (some .int), 2)
abbrev mX7_table : mm_I := (yX7_table, cX7_table, 4, (some .int), 2)
abbrev mX7_sky : mm_I := (yX7_sky, cX7_sky, 2, (some .int), 1)
abbrev mX7_far : mm_I := (yX7_far, cX7_far, 4, (some .int), 3)
abbrev mX7_lean : mm_I := (yX7_lean, cX7_lean, 4, (some .int), 3)
abbrev mX7_agreed : mm_I := (yX7_agreed, cX7_agreed, 4, (some .int), 4)
abbrev mX7_green : mm_I := (yX7_green, cX7_green, 3, (some .int), 2)
abbrev mX7_given : mm_I := (yX7_given, cX7_given, 2, (some .int), 6)
abbrev mX7_things : mm_I := (yX7_things, cX7_things, 2, (some .int), 1)
abbrev mX7_weight : mm_I := (yX7_weight, cX7_weight, 3, (some .int), 2)
abbrev mX7_question : mm_I := (yX7_question, cX7_question, 3, (some .int), 1)
abbrev mX7_tree : mm_I := (yX7_tree, cX7_tree, 3, (some .int), 6)
abbrev mX7_wrong : mm_I := (yX7_wrong, cX7_wrong, 2, (some .int), 6)
abbrev mX7_isWithin : mm_I := (yX7_isWithin, cX7_isWithin, 3, (some .boolean), 0)
abbrev mX7_isKind : mm_I := (yX7_isKind, cX7_isKind, 1, (some .boolean), 0)
abbrev mX7_isArm : mm_I := (yX7_isArm, cX7_isArm, 1, (some .boolean), 0)
abbrev mX7_isRule : mm_I := (yX7_isRule, cX7_isRule, 1, (some .boolean), 1)
abbrev mX7_isPart : mm_I := (yX7_isPart, cX7_isPart, 2, (some .boolean), 0)
abbrev mX7_isIn : mm_I := (yX7_isIn, cX7_isIn, 2, (some .boolean), 0)
abbrev mX7_oneIf : mm_I := (yX7_oneIf, cX7_oneIf, 1, (some .int), 0)
abbrev mX7_turned : mm_I := (yX7_turned, cX7_turned, 1, (some .int), 1)
abbrev mX7_lookByDraws : mm_I := (yX7_lookByDraws, cX7_lookByDraws, 4, (some .int), 4)
abbrev mX7_answerByDraws : mm_I := (yX7_answerByDraws, cX7_answerByDraws, 5, (some .int), 3)
abbrev mX7_seenByDraws : mm_I := (yX7_seenByDraws, cX7_seenByDraws, 3, (some .int), 2)
abbrev mX7_eyeOf : mm_I := (yX7_eyeOf, cX7_eyeOf, 5, (some .int), 2)
abbrev mX7_isDone : mm_I := (yX7_isDone, cX7_isDone, 2, (some .boolean), 2)
abbrev mX7_doneOnes : mm_I := (yX7_doneOnes, cX7_doneOnes, 3, (some .int), 3)
abbrev mX7_shownNext : mm_I := (yX7_shownNext, cX7_shownNext, 6, (some .int), 3)
abbrev mX7_isShownBefore : mm_I := (yX7_isShownBefore, cX7_isShownBefore, 4, (some .boolean), 2)
abbrev mX7_takeTurn : mm_I := (yX7_takeTurn, cX7_takeTurn, 5, none, 5)
abbrev mX7_keepsOn : mm_I := (yX7_keepsOn, cX7_keepsOn, 5, (some .boolean), 2)
abbrev mX7_stayingOnes : mm_I := (yX7_stayingOnes, cX7_stayingOnes, 3, (some .int), 3)
abbrev mX7_farShare : mm_I := (yX7_farShare, cX7_farShare, 4, (some .int), 2)
abbrev mX7_mirrorPairs : mm_I := (yX7_mirrorPairs, cX7_mirrorPairs, 7, (some .int), 2)
abbrev mX7_sharedPictures : mm_I := (yX7_sharedPictures, cX7_sharedPictures, 5, (some .int), 2)
abbrev mX7_alikeAnswers : mm_I := (yX7_alikeAnswers, cX7_alikeAnswers, 5, (some .int), 2)
abbrev mX7_mayBeOne : mm_I := (yX7_mayBeOne, cX7_mayBeOne, 4, (some .boolean), 3)
abbrev mX7_greenerThan : mm_I := (yX7_greenerThan, cX7_greenerThan, 5, (some .int), 1)
abbrev mX7_isSure : mm_I := (yX7_isSure, cX7_isSure, 3, (some .boolean), 2)
abbrev mX7_isGivenAs : mm_I := (yX7_isGivenAs, cX7_isGivenAs, 4, (some .boolean), 3)
abbrev mX7_isGiven : mm_I := (yX7_isGiven, cX7_isGiven, 2, (some .boolean), 4)
abbrev mX7_givenPictures : mm_I := (yX7_givenPictures, cX7_givenPictures, 3, (some .int), 5)
abbrev mX7_looksOfOthersAtGiven : mm_I := (yX7_looksOfOthersAtGiven, cX7_looksOfOthersAtGiven, 3, (some .int), 5)
abbrev mX7_wronglyGivenPictures : mm_I := (yX7_wronglyGivenPictures, cX7_wronglyGivenPictures, 5, (some .int), 4)
abbrev mX8_in : mm_I := (yX8_in, cX8_in, 6, (some .boolean), 0)
abbrev mX8_one : mm_I := (yX8_one, cX8_one, 1, (some .int), 0)
abbrev mX8_atFirst : mm_I := (yX8_atFirst, cX8_atFirst, 1, (some .int), 0)
abbrev mX8_feed : mm_I := (yX8_feed, cX8_feed, 5, (some .int), 1)
abbrev mX8_here : mm_I := (yX8_here, cX8_here, 1, (some .int), 0)
abbrev mX8_want : mm_I := (yX8_want, cX8_want, 4, (some .boolean), 0)
abbrev mX8_isWord : mm_I := (yX8_isWord, cX8_isWord, 9, (some .boolean), 0)
abbrev mX8_kindOf : mm_I := (yX8_kindOf, cX8_kindOf, 1, (some .int), 1)
abbrev mX8_takeNumber : mm_I := (yX8_takeNumber, cX8_takeNumber, 6, (some .int), 1)
abbrev mX8_read : mm_I := (yX8_read, cX8_read, 6, (some .int), 2)
abbrev mX8_fault : mm_I := (yX8_fault, cX8_fault, 1, (some .int), 0)
abbrev mX8_law : mm_I := (yX8_law, cX8_law, 2, (some .int), 1)
abbrev mX8_add : mm_I := (yX8_add, cX8_add, 6, (some .int), 0)
abbrev mX8_picture : mm_I := (yX8_picture, cX8_picture, 5, (some .int), 1)
abbrev mX8_noPicture : mm_I := (yX8_noPicture, cX8_noPicture, 2, (some .boolean), 1)
abbrev mX8_noLooker : mm_I := (yX8_noLooker, cX8_noLooker, 2, (some .boolean), 1)
abbrev mX8_mirror : mm_I := (yX8_mirror, cX8_mirror, 2, (some .int), 2)
abbrev mX8_looker : mm_I := (yX8_looker, cX8_looker, 2, (some .int), 1)
abbrev mX8_looksAt : mm_I := (yX8_looksAt, cX8_looksAt, 4, (some .int), 1)
abbrev mX8_greens : mm_I := (yX8_greens, cX8_greens, 4, (some .int), 1)
abbrev mX8_greatestOdds : mm_I := (yX8_greatestOdds, cX8_greatestOdds, 4, (some .int), 0)
abbrev mX8_isDone : mm_I := (yX8_isDone, cX8_isDone, 2, (some .boolean), 2)
abbrev mX8_told : mm_I := (yX8_told, cX8_told, 3, (some .int), 3)
abbrev mX8_knownMany : mm_I := (yX8_knownMany, cX8_knownMany, 3, (some .int), 1)
abbrev mX8_mirrors : mm_I := (yX8_mirrors, cX8_mirrors, 3, (some .int), 1)
abbrev mX8_doneMany : mm_I := (yX8_doneMany, cX8_doneMany, 3, (some .int), 3)
abbrev mX8_staying : mm_I := (yX8_staying, cX8_staying, 3, (some .int), 1)
abbrev mX8_count : mm_I := (yX8_count, cX8_count, 2, (some .int), 4)
abbrev mX8_seed : mm_I := (yX8_seed, cX8_seed, 3, (some .int), 0)
abbrev mX8_draw : mm_I := (yX8_draw, cX8_draw, 1, (some .int), 0)
abbrev mX8_lookOf : mm_I := (yX8_lookOf, cX8_lookOf, 4, (some .int), 0)
abbrev mX8_addLook : mm_I := (yX8_addLook, cX8_addLook, 4, (some .int), 0)
abbrev mX8_look : mm_I := (yX8_look, cX8_look, 4, (some .int), 2)
abbrev mX8_looksBy : mm_I := (yX8_looksBy, cX8_looksBy, 4, (some .int), 1)
abbrev mX8_eyeOf : mm_I := (yX8_eyeOf, cX8_eyeOf, 4, (some .int), 2)
abbrev mX8_saidOf : mm_I := (yX8_saidOf, cX8_saidOf, 5, (some .int), 3)
abbrev mX8_says : mm_I := (yX8_says, cX8_says, 5, (some .int), 4)
abbrev mX8_counts : mm_I := (yX8_counts, cX8_counts, 4, (some .boolean), 1)
abbrev mX8_about : mm_I := (yX8_about, cX8_about, 3, (some .int), 2)
abbrev mX8_nextOf : mm_I := (yX8_nextOf, cX8_nextOf, 6, (some .int), 3)
abbrev mX8_next : mm_I := (yX8_next, cX8_next, 3, (some .int), 4)
abbrev mX8_isStaying : mm_I := (yX8_isStaying, cX8_isStaying, 5, (some .boolean), 0)
abbrev mX8_stays : mm_I := (yX8_stays, cX8_stays, 2, (some .int), 2)
abbrev mX8_evening : mm_I := (yX8_evening, cX8_evening, 9, (some .int), 4)
abbrev mX8_beginOdds : mm_I := (yX8_beginOdds, cX8_beginOdds, 2, none, 0)
abbrev mX8_setOdds : mm_I := (yX8_setOdds, cX8_setOdds, 4, none, 0)
abbrev mX8_findOdds : mm_I := (yX8_findOdds, cX8_findOdds, 7, none, 1)
abbrev mX8_findTable : mm_I := (yX8_findTable, cX8_findTable, 4, none, 2)
abbrev mX8_findSky : mm_I := (yX8_findSky, cX8_findSky, 5, none, 0)
abbrev mX8_reckon : mm_I := (yX8_reckon, cX8_reckon, 2, (some .int), 3)
abbrev mX8_odds : mm_I := (yX8_odds, cX8_odds, 3, (some .int), 2)
abbrev mX8_table : mm_I := (yX8_table, cX8_table, 4, (some .int), 2)
abbrev mX8_sky : mm_I := (yX8_sky, cX8_sky, 2, (some .int), 1)
abbrev mX8_far : mm_I := (yX8_far, cX8_far, 6, (some .int), 1)
abbrev mX8_lean : mm_I := (yX8_lean, cX8_lean, 8, (some .int), 2)
abbrev mX8_agreed : mm_I := (yX8_agreed, cX8_agreed, 9, (some .int), 2)
abbrev mX8_green : mm_I := (yX8_green, cX8_green, 5, (some .int), 2)
abbrev mX8_isSure : mm_I := (yX8_isSure, cX8_isSure, 2, (some .boolean), 0)
abbrev mX8_given : mm_I := (yX8_given, cX8_given, 10, (some .int), 1)
abbrev mX8_things : mm_I := (yX8_things, cX8_things, 3, (some .int), 1)
abbrev mX8_weight : mm_I := (yX8_weight, cX8_weight, 4, (some .int), 1)
abbrev mX8_question : mm_I := (yX8_question, cX8_question, 4, (some .int), 1)
abbrev mX8_weightOf : mm_I := (yX8_weightOf, cX8_weightOf, 4, (some .int), 0)
abbrev mX8_findTrees : mm_I := (yX8_findTrees, cX8_findTrees, 6, none, 1)
abbrev mX8_tree : mm_I := (yX8_tree, cX8_tree, 3, (some .int), 2)
abbrev mX8_side : mm_I := (yX8_side, cX8_side, 6, (some .int), 0)
abbrev mX8_wrong : mm_I := (yX8_wrong, cX8_wrong, 3, (some .int), 2)
theorem lk_X0_25 : mm_LV RX0 25 RX0 mX0_draw 0 := ⟨wm_27_13, wm_27_14, wm_27_15, wm_1_19, wm_27_16, by decide +kernel⟩
theorem lk_X1_39 : mm_LV RX1 39 RX1 mX1_readText 0 := ⟨wm_11_18, wm_11_19, wm_11_20, wm_1_15, wm_11_21, by decide +kernel⟩
theorem lk_X1_45 : mm_LV RX1 45 RX1 mX1_takeReadValues 0 := ⟨wm_15_22, wm_15_23, wm_16_0, wm_1_15, wm_16_1, by decide +kernel⟩
theorem lk_X1_56 : mm_LV RX1 56 RX1 mX1_skipBlanks 0 := ⟨wm_11_23, wm_12_0, wm_12_1, wm_1_15, wm_12_2, by decide +kernel⟩
theorem lk_X1_59 : mm_LV RX1 59 RX1 mX1_readClause 0 := ⟨wm_12_7, wm_12_8, wm_12_9, wm_1_15, wm_12_10, by decide +kernel⟩
theorem lk_X1_62 : mm_LV RX1 62 RX1 mX1_readWord 0 := ⟨wm_12_11, wm_12_12, wm_12_13, wm_1_15, wm_12_14, by decide +kernel⟩
theorem lk_X1_65 : mm_LV RX1 65 RX1 mX1_readNumber 1 := ⟨wm_15_6, wm_15_7, wm_15_8, wm_1_15, wm_15_9, by decide +kernel⟩
theorem lk_X1_69 : mm_LV RX1 69 RX1 mX1_readEnd 2 := ⟨wm_15_18, wm_15_19, wm_15_20, wm_1_15, wm_15_21, by decide +kernel⟩
theorem lk_X1_73 : mm_LV RX1 73 RX1 mX1_byteAt 1 := ⟨wm_12_3, wm_12_4, wm_12_5, wm_1_15, wm_12_6, by decide +kernel⟩
theorem lk_X1_76 : mm_LS RX1 76 mX1_isLetter 1 := ⟨wm_12_15, wm_12_16, wm_1_15, wm_12_17, by decide +kernel⟩
theorem lk_X1_80 : mm_LS RX1 80 mX1_wordOf 1 := ⟨wm_12_18, wm_12_19, wm_1_15, wm_12_20, by decide +kernel⟩
theorem lk_X1_84 : mm_LV RX1 84 RX1 mX1_isWord 3 := ⟨wm_12_21, wm_12_22, wm_12_23, wm_1_15, wm_13_0, by decide +kernel⟩
theorem lk_X1_88 : mm_LV RX1 88 RX1 mX1_blame 2 := ⟨wm_15_2, wm_15_3, wm_15_4, wm_1_15, wm_15_5, by decide +kernel⟩
theorem lk_X1_91 : mm_LS RX1 91 mX1_isFigure 1 := ⟨wm_15_10, wm_15_11, wm_1_15, wm_15_12, by decide +kernel⟩
theorem lk_X1_94 : mm_LS RX1 94 mX1_isInBounds 2 := ⟨wm_15_13, wm_15_14, wm_1_15, wm_15_15, by decide +kernel⟩
theorem lk_X2_19 : mm_LV RX2 19 RX2 mX2_has 1 := ⟨wm_27_8, wm_25_5, wm_25_6, wm_2_3, wm_25_7, by decide +kernel⟩
theorem lk_X3_41 : mm_LS RX3 41 mX3_isCell 2 := ⟨wm_25_12, wm_25_13, wm_2_7, wm_25_14, by decide +kernel⟩
theorem lk_X3_49 : mm_LV RX3 49 RX3 mX3_has 1 := ⟨wm_21_14, wm_21_15, wm_21_16, wm_2_7, wm_21_17, by decide +kernel⟩
theorem lk_X4_32 : mm_LV RX4 32 RX4 mX4_has 1 := ⟨wm_8_22, wm_8_15, wm_8_16, wm_1_23, wm_8_17, by decide +kernel⟩
theorem lk_X4_36 : mm_LV RX4 36 RX4 mX4_isKnown 1 := ⟨wm_19_13, wm_19_14, wm_19_15, wm_1_23, wm_19_16, by decide +kernel⟩
theorem lk_X4_43 : mm_LV RX4 43 RX4 mX4_originalOf 1 := ⟨wm_19_21, wm_8_19, wm_8_20, wm_1_23, wm_8_21, by decide +kernel⟩
theorem lk_X5_27 : mm_LV RX5 27 RX5 mX5_restart 1 := ⟨wm_5_10, wm_5_11, wm_5_12, wm_2_15, wm_5_13, by decide +kernel⟩
theorem lk_X5_39 : mm_LV RX5 39 RX5 mX5_hasThing 1 := ⟨wm_42_18, wm_42_11, wm_42_12, wm_2_15, wm_42_13, by decide +kernel⟩
theorem lk_X5_43 : mm_LV RX5 43 RX5 mX5_plan 0 := ⟨wm_44_0, wm_44_1, wm_44_2, wm_2_15, wm_44_3, by decide +kernel⟩
theorem lk_X5_46 : mm_LV RX5 46 RX5 mX5_plannedAsks 1 := ⟨wm_44_12, wm_44_13, wm_44_14, wm_2_15, wm_44_15, by decide +kernel⟩
theorem lk_X5_49 : mm_LV RX5 49 RX5 mX5_plannedFirst 1 := ⟨wm_45_12, wm_45_13, wm_45_14, wm_2_15, wm_45_15, by decide +kernel⟩
theorem lk_X5_52 : mm_LV RX5 52 RX5 mX5_plannedDepth 1 := ⟨wm_45_4, wm_45_5, wm_45_6, wm_2_15, wm_45_7, by decide +kernel⟩
theorem lk_X5_55 : mm_LV RX5 55 RX5 mX5_sideOf 3 := ⟨wm_46_17, wm_46_18, wm_46_19, wm_2_15, wm_46_20, by decide +kernel⟩
theorem lk_X5_59 : mm_LV RX5 59 RX5 mX5_yesSetOf 1 := ⟨wm_44_8, wm_44_9, wm_44_10, wm_2_15, wm_44_11, by decide +kernel⟩
theorem lk_X5_66 : mm_LV RX5 66 RX5 mX5_planSet 1 := ⟨wm_44_4, wm_44_5, wm_44_6, wm_2_15, wm_44_7, by decide +kernel⟩
theorem lk_X5_70 : mm_LS RX5 70 mX5_isSet 1 := ⟨wm_44_16, wm_44_17, wm_2_15, wm_44_18, by decide +kernel⟩
theorem lk_X5_73 : mm_LV RX5 73 RX5 mX5_weightOf 1 := ⟨wm_44_19, wm_44_20, wm_44_21, wm_2_15, wm_44_22, by decide +kernel⟩
theorem lk_X5_76 : mm_LV RX5 76 RX5 mX5_deeperSide 2 := ⟨wm_44_23, wm_45_0, wm_45_1, wm_2_15, wm_45_2, by decide +kernel⟩
theorem lk_X6_28 : mm_LV RX6 28 RX6 mX6_begin 0 := ⟨wm_4_21, wm_4_22, wm_4_23, wm_2_11, wm_5_0, by decide +kernel⟩
theorem lk_X6_35 : mm_LS RX6 35 mX6_isOddsCell 2 := ⟨wm_20_14, wm_20_15, wm_2_11, wm_20_16, by decide +kernel⟩
theorem lk_X6_45 : mm_LS RX6 45 mX6_isTableCell 3 := ⟨wm_33_17, wm_33_18, wm_2_11, wm_33_19, by decide +kernel⟩
theorem lk_X6_49 : mm_LS RX6 49 mX6_tableCell 3 := ⟨wm_33_20, wm_33_21, wm_2_11, wm_33_22, by decide +kernel⟩
theorem lk_X6_57 : mm_LV RX6 57 RX6 mX6_findOdds 2 := ⟨wm_32_20, wm_32_21, wm_32_22, wm_2_11, wm_32_23, by decide +kernel⟩
theorem lk_X6_61 : mm_LV RX6 61 RX6 mX6_findTables 1 := ⟨wm_34_23, wm_35_0, wm_35_1, wm_2_11, wm_35_2, by decide +kernel⟩
theorem lk_X6_65 : mm_LV RX6 65 RX4 mX4_size 0 := ⟨wm_33_23, wm_18_21, wm_18_22, wm_1_23, wm_18_23, by decide +kernel⟩
theorem lk_X6_71 : mm_LV RX6 71 RX6 mX6_findSky 1 := ⟨wm_35_15, wm_35_16, wm_35_17, wm_2_11, wm_35_18, by decide +kernel⟩
theorem lk_X6_75 : mm_LV RX6 75 RX6 mX6_skyOf 1 := ⟨wm_33_0, wm_33_1, wm_33_2, wm_2_11, wm_33_3, by decide +kernel⟩
theorem lk_X6_79 : mm_LV RX6 79 RX3 mX3_size 0 := ⟨wm_33_4, wm_19_5, wm_19_6, wm_2_7, wm_19_7, by decide +kernel⟩
theorem lk_X6_82 : mm_LV RX6 82 RX3 mX3_counts 1 := ⟨wm_33_5, wm_29_22, wm_29_23, wm_2_7, wm_30_0, by decide +kernel⟩
theorem lk_X6_86 : mm_LV RX6 86 RX3 mX3_lookerOf 1 := ⟨wm_33_6, wm_21_11, wm_21_12, wm_2_7, wm_21_13, by decide +kernel⟩
theorem lk_X6_89 : mm_LV RX6 89 RX3 mX3_pictureOf 1 := ⟨wm_33_7, wm_21_19, wm_21_20, wm_2_7, wm_21_21, by decide +kernel⟩
theorem lk_X6_92 : mm_LV RX6 92 RX3 mX3_answerOf 1 := ⟨wm_33_8, wm_29_18, wm_29_19, wm_2_7, wm_29_20, by decide +kernel⟩
theorem lk_X6_95 : mm_LV RX6 95 RX6 mX6_weigh 3 := ⟨wm_33_9, wm_33_10, wm_33_11, wm_2_11, wm_33_12, by decide +kernel⟩
theorem lk_X6_99 : mm_LV RX6 99 RX4 mX4_isKnown 1 := ⟨wm_34_0, wm_19_14, wm_19_15, wm_1_23, wm_19_16, by decide +kernel⟩
theorem lk_X6_102 : mm_LV RX6 102 RX4 mX4_kindOf 1 := ⟨wm_34_1, wm_9_0, wm_9_1, wm_1_23, wm_9_2, by decide +kernel⟩
theorem lk_X6_105 : mm_LV RX6 105 RX6 mX6_keepKnown 2 := ⟨wm_34_2, wm_34_3, wm_34_4, wm_2_11, wm_34_5, by decide +kernel⟩
theorem lk_X6_109 : mm_LV RX6 109 RX6 mX6_keepShares 1 := ⟨wm_34_10, wm_34_11, wm_34_12, wm_2_11, wm_34_13, by decide +kernel⟩
theorem lk_X6_112 : mm_LV RX6 112 RX6 mX6_tableOf 3 := ⟨wm_33_13, wm_33_14, wm_33_15, wm_2_11, wm_33_16, by decide +kernel⟩
theorem lk_X6_115 : mm_LV RX6 115 RX6 mX6_keep 3 := ⟨wm_34_6, wm_34_7, wm_34_8, wm_2_11, wm_34_9, by decide +kernel⟩
theorem lk_X6_119 : mm_LV RX6 119 RX6 mX6_shareOf 2 := ⟨wm_34_14, wm_34_15, wm_34_16, wm_2_11, wm_34_17, by decide +kernel⟩
theorem lk_X6_122 : mm_LV RX6 122 RX6 mX6_chanceOf 2 := ⟨wm_34_19, wm_34_20, wm_34_21, wm_2_11, wm_34_22, by decide +kernel⟩
theorem lk_X6_128 : mm_LV RX6 128 RX6 mX6_addOdds 3 := ⟨wm_35_3, wm_35_4, wm_35_5, wm_2_11, wm_35_6, by decide +kernel⟩
theorem lk_X6_131 : mm_LV RX6 131 RX6 mX6_keepTable 1 := ⟨wm_35_11, wm_35_12, wm_35_13, wm_2_11, wm_35_14, by decide +kernel⟩
theorem lk_X6_134 : mm_LV RX6 134 RX6 mX6_oddsOf 2 := ⟨wm_35_7, wm_35_8, wm_35_9, wm_2_11, wm_35_10, by decide +kernel⟩
theorem lk_X6_137 : mm_LV RX6 137 RX6 mX6_sumOfOdds 2 := ⟨wm_35_19, wm_35_20, wm_35_21, wm_2_11, wm_35_22, by decide +kernel⟩
theorem lk_X7_58 : mm_LS RX7 58 mX7_isKind 1 := ⟨wm_7_9, wm_7_10, wm_1_2, wm_7_11, by decide +kernel⟩
theorem lk_X7_62 : mm_LS RX7 62 mX7_isWithin 3 := ⟨wm_7_12, wm_7_13, wm_1_2, wm_7_14, by decide +kernel⟩
theorem lk_X7_66 : mm_LV RX7 66 RX4 mX4_add 5 := ⟨wm_7_15, wm_7_16, wm_7_17, wm_1_23, wm_7_18, by decide +kernel⟩
theorem lk_X7_70 : mm_LV RX7 70 RX4 mX4_has 1 := ⟨wm_8_14, wm_8_15, wm_8_16, wm_1_23, wm_8_17, by decide +kernel⟩
theorem lk_X7_73 : mm_LV RX7 73 RX4 mX4_originalOf 1 := ⟨wm_8_18, wm_8_19, wm_8_20, wm_1_23, wm_8_21, by decide +kernel⟩
theorem lk_X7_77 : mm_LV RX7 77 RX4 mX4_kindOf 1 := ⟨wm_8_23, wm_9_0, wm_9_1, wm_1_23, wm_9_2, by decide +kernel⟩
theorem lk_X7_80 : mm_LS RX7 80 mX7_turned 1 := ⟨wm_9_3, wm_9_4, wm_1_2, wm_9_5, by decide +kernel⟩
theorem lk_X7_83 : mm_LV RX7 83 RX4 mX4_farOf 1 := ⟨wm_9_9, wm_9_10, wm_9_11, wm_1_23, wm_9_12, by decide +kernel⟩
theorem lk_X7_86 : mm_LV RX7 86 RX4 mX4_depthOf 1 := ⟨wm_9_13, wm_9_14, wm_9_15, wm_1_23, wm_9_16, by decide +kernel⟩
theorem lk_X7_89 : mm_LV RX7 89 RX2 mX2_add 1 := ⟨wm_10_5, wm_10_6, wm_10_7, wm_2_3, wm_10_8, by decide +kernel⟩
theorem lk_X7_91 : mm_LV RX7 91 RX1 mX1_append 2 := ⟨wm_10_20, wm_10_21, wm_10_22, wm_1_15, wm_10_23, by decide +kernel⟩
theorem lk_X7_95 : mm_LV RX7 95 RX1 mX1_takeText 0 := ⟨wm_11_13, wm_11_14, wm_11_15, wm_1_15, wm_11_16, by decide +kernel⟩
theorem lk_X7_99 : mm_LV RX7 99 RX1 mX1_faultPlace 0 := ⟨wm_17_19, wm_17_20, wm_17_21, wm_1_15, wm_17_22, by decide +kernel⟩
theorem lk_X7_102 : mm_LV RX7 102 RX1 mX1_valueOf 1 := ⟨wm_18_7, wm_18_8, wm_18_9, wm_1_15, wm_18_10, by decide +kernel⟩
theorem lk_X7_105 : mm_LV RX7 105 RX4 mX4_size 0 := ⟨wm_18_20, wm_18_21, wm_18_22, wm_1_23, wm_18_23, by decide +kernel⟩
theorem lk_X7_108 : mm_LV RX7 108 RX2 mX2_size 0 := ⟨wm_19_0, wm_19_1, wm_19_2, wm_2_3, wm_19_3, by decide +kernel⟩
theorem lk_X7_109 : mm_LV RX7 109 RX3 mX3_size 0 := ⟨wm_19_4, wm_19_5, wm_19_6, wm_2_7, wm_19_7, by decide +kernel⟩
theorem lk_X7_110 : mm_LV RX7 110 RX4 mX4_knownOnes 0 := ⟨wm_19_9, wm_19_10, wm_19_11, wm_1_23, wm_19_12, by decide +kernel⟩
theorem lk_X7_113 : mm_LV RX7 113 RX4 mX4_mirrors 0 := ⟨wm_19_17, wm_19_18, wm_19_19, wm_1_23, wm_19_20, by decide +kernel⟩
theorem lk_X7_116 : mm_LV RX7 116 RX7 mX7_doneOnes 0 := ⟨wm_19_22, wm_19_23, wm_20_0, wm_1_2, wm_20_1, by decide +kernel⟩
theorem lk_X7_119 : mm_LV RX7 119 RX1 mX1_textSize 0 := ⟨wm_20_22, wm_20_23, wm_21_0, wm_1_15, wm_21_1, by decide +kernel⟩
theorem lk_X7_122 : mm_LV RX7 122 RX7 mX7_stayingOnes 0 := ⟨wm_21_2, wm_21_3, wm_21_4, wm_1_2, wm_21_5, by decide +kernel⟩
theorem lk_X7_125 : mm_LV RX7 125 RX6 mX6_rounds 0 := ⟨wm_21_22, wm_21_23, wm_22_0, wm_2_11, wm_22_1, by decide +kernel⟩
theorem lk_X7_128 : mm_LV RX7 128 RX4 mX4_isKnown 1 := ⟨wm_23_21, wm_19_14, wm_19_15, wm_1_23, wm_19_16, by decide +kernel⟩
theorem lk_X7_131 : mm_LS RX7 131 mX7_oneIf 1 := ⟨wm_20_21, wm_16_2, wm_1_2, wm_16_3, by decide +kernel⟩
theorem lk_X7_135 : mm_LV RX7 135 RX3 mX3_howManyAt 1 := ⟨wm_20_17, wm_20_18, wm_20_19, wm_2_7, wm_20_20, by decide +kernel⟩
theorem lk_X7_138 : mm_LV RX7 138 RX3 mX3_greensAt 1 := ⟨wm_23_22, wm_23_23, wm_24_0, wm_2_7, wm_24_1, by decide +kernel⟩
theorem lk_X7_141 : mm_LV RX7 141 RX7 mX7_isDone 1 := ⟨wm_20_2, wm_20_3, wm_20_4, wm_1_2, wm_20_5, by decide +kernel⟩
theorem lk_X7_144 : mm_LV RX7 144 RX0 mX0_begin 1 := ⟨wm_24_14, wm_24_15, wm_24_16, wm_1_19, wm_24_17, by decide +kernel⟩
theorem lk_X7_147 : mm_LV RX7 147 RX2 mX2_has 1 := ⟨wm_25_4, wm_25_5, wm_25_6, wm_2_3, wm_25_7, by decide +kernel⟩
theorem lk_X7_148 : mm_LV RX7 148 RX3 mX3_answerAt 2 := ⟨wm_25_8, wm_25_9, wm_25_10, wm_2_7, wm_25_11, by decide +kernel⟩
theorem lk_X7_152 : mm_LV RX7 152 RX3 mX3_add 3 := ⟨wm_25_15, wm_25_16, wm_25_17, wm_2_7, wm_25_18, by decide +kernel⟩
theorem lk_X7_155 : mm_LV RX7 155 RX3 mX3_isFull 0 := ⟨wm_26_16, wm_26_17, wm_26_18, wm_2_7, wm_26_19, by decide +kernel⟩
theorem lk_X7_159 : mm_LV RX7 159 RX7 mX7_lookByDraws 2 := ⟨wm_26_20, wm_26_21, wm_26_22, wm_1_2, wm_26_23, by decide +kernel⟩
theorem lk_X7_162 : mm_LV RX7 162 RX3 mX3_has 1 := ⟨wm_29_16, wm_21_15, wm_21_16, wm_2_7, wm_21_17, by decide +kernel⟩
theorem lk_X7_163 : mm_LV RX7 163 RX3 mX3_lookerOf 1 := ⟨wm_21_10, wm_21_11, wm_21_12, wm_2_7, wm_21_13, by decide +kernel⟩
theorem lk_X7_166 : mm_LV RX7 166 RX3 mX3_pictureOf 1 := ⟨wm_21_18, wm_21_19, wm_21_20, wm_2_7, wm_21_21, by decide +kernel⟩
theorem lk_X7_169 : mm_LV RX7 169 RX3 mX3_answerOf 1 := ⟨wm_29_17, wm_29_18, wm_29_19, wm_2_7, wm_29_20, by decide +kernel⟩
theorem lk_X7_172 : mm_LV RX7 172 RX3 mX3_counts 1 := ⟨wm_29_21, wm_29_22, wm_29_23, wm_2_7, wm_30_0, by decide +kernel⟩
theorem lk_X7_175 : mm_LS RX7 175 mX7_isRule 1 := ⟨wm_30_13, wm_30_14, wm_1_2, wm_30_15, by decide +kernel⟩
theorem lk_X7_178 : mm_LV RX7 178 RX7 mX7_shownNext 2 := ⟨wm_30_16, wm_30_17, wm_30_18, wm_1_2, wm_30_19, by decide +kernel⟩
theorem lk_X7_181 : mm_LS RX7 181 mX7_isPart 2 := ⟨wm_31_12, wm_31_13, wm_1_2, wm_31_14, by decide +kernel⟩
theorem lk_X7_185 : mm_LV RX7 185 RX7 mX7_takeTurn 2 := ⟨wm_31_15, wm_31_16, wm_31_17, wm_1_2, wm_31_18, by decide +kernel⟩
theorem lk_X7_189 : mm_LV RX7 189 RX7 mX7_keepsOn 1 := ⟨wm_21_6, wm_21_7, wm_21_8, wm_1_2, wm_21_9, by decide +kernel⟩
theorem lk_X7_192 : mm_LV RX7 192 RX6 mX6_settle 2 := ⟨wm_32_15, wm_32_16, wm_32_17, wm_2_11, wm_32_18, by decide +kernel⟩
theorem lk_X7_196 : mm_LV RX7 196 RX6 mX6_oddsOf 2 := ⟨wm_37_1, wm_35_8, wm_35_9, wm_2_11, wm_35_10, by decide +kernel⟩
theorem lk_X7_199 : mm_LV RX7 199 RX6 mX6_tableOf 3 := ⟨wm_37_10, wm_33_14, wm_33_15, wm_2_11, wm_33_16, by decide +kernel⟩
theorem lk_X7_202 : mm_LV RX7 202 RX6 mX6_skyOf 1 := ⟨wm_37_19, wm_33_1, wm_33_2, wm_2_11, wm_33_3, by decide +kernel⟩
theorem lk_X7_205 : mm_LV RX7 205 RX7 mX7_farShare 1 := ⟨wm_38_4, wm_38_5, wm_38_6, wm_1_2, wm_38_7, by decide +kernel⟩
theorem lk_X7_208 : mm_LV RX7 208 RX7 mX7_mirrorPairs 3 := ⟨wm_38_17, wm_38_18, wm_38_19, wm_1_2, wm_38_20, by decide +kernel⟩
theorem lk_X7_211 : mm_LV RX7 211 RX7 mX7_alikeAnswers 2 := ⟨wm_39_5, wm_39_6, wm_39_7, wm_1_2, wm_39_8, by decide +kernel⟩
theorem lk_X7_214 : mm_LV RX7 214 RX7 mX7_sharedPictures 2 := ⟨wm_39_9, wm_39_10, wm_39_11, wm_1_2, wm_39_12, by decide +kernel⟩
theorem lk_X7_217 : mm_LV RX7 217 RX7 mX7_mayBeOne 2 := ⟨wm_39_13, wm_39_14, wm_39_15, wm_1_2, wm_39_16, by decide +kernel⟩
theorem lk_X7_220 : mm_LV RX7 220 RX7 mX7_greenerThan 1 := ⟨wm_40_1, wm_40_2, wm_40_3, wm_1_2, wm_40_4, by decide +kernel⟩
theorem lk_X7_223 : mm_LV RX7 223 RX7 mX7_givenPictures 0 := ⟨wm_40_13, wm_40_14, wm_40_15, wm_1_2, wm_40_16, by decide +kernel⟩
theorem lk_X7_226 : mm_LV RX7 226 RX7 mX7_looksOfOthersAtGiven 0 := ⟨wm_41_5, wm_41_6, wm_41_7, wm_1_2, wm_41_8, by decide +kernel⟩
theorem lk_X7_229 : mm_LV RX7 229 RX7 mX7_wronglyGivenPictures 0 := ⟨wm_41_9, wm_41_10, wm_41_11, wm_1_2, wm_41_12, by decide +kernel⟩
theorem lk_X7_232 : mm_LV RX7 232 RX5 mX5_restart 1 := ⟨wm_42_1, wm_5_11, wm_5_12, wm_2_15, wm_5_13, by decide +kernel⟩
theorem lk_X7_235 : mm_LV RX7 235 RX5 mX5_hasThing 1 := ⟨wm_42_10, wm_42_11, wm_42_12, wm_2_15, wm_42_13, by decide +kernel⟩
theorem lk_X7_238 : mm_LV RX7 238 RX5 mX5_changeWeight 2 := ⟨wm_42_14, wm_42_15, wm_42_16, wm_2_15, wm_42_17, by decide +kernel⟩
theorem lk_X7_241 : mm_LV RX7 241 RX5 mX5_size 0 := ⟨wm_43_4, wm_43_5, wm_43_6, wm_2_15, wm_43_7, by decide +kernel⟩
theorem lk_X7_242 : mm_LV RX7 242 RX5 mX5_changeSet 2 := ⟨wm_43_8, wm_43_9, wm_43_10, wm_2_15, wm_43_11, by decide +kernel⟩
theorem lk_X7_245 : mm_LV RX7 245 RX5 mX5_asksOf 1 := ⟨wm_43_20, wm_43_21, wm_43_22, wm_2_15, wm_43_23, by decide +kernel⟩
theorem lk_X7_248 : mm_LV RX7 248 RX5 mX5_firstOf 1 := ⟨wm_45_8, wm_45_9, wm_45_10, wm_2_15, wm_45_11, by decide +kernel⟩
theorem lk_X7_251 : mm_LV RX7 251 RX5 mX5_depthOf 1 := ⟨wm_45_16, wm_45_17, wm_45_18, wm_2_15, wm_45_19, by decide +kernel⟩
theorem lk_X7_252 : mm_LV RX7 252 RX5 mX5_wrongTurn 1 := ⟨wm_46_13, wm_46_14, wm_46_15, wm_2_15, wm_46_16, by decide +kernel⟩
theorem lk_X7_255 : mm_LS RX7 255 mX7_isArm 1 := ⟨wm_9_6, wm_9_7, wm_1_2, wm_9_8, by decide +kernel⟩
theorem lk_X7_258 : mm_LV RX7 258 RX7 mX7_answerByDraws 2 := ⟨wm_27_0, wm_27_1, wm_27_2, wm_1_2, wm_27_3, by decide +kernel⟩
theorem lk_X7_261 : mm_LV RX7 261 RX2 mX2_sortOf 1 := ⟨wm_27_4, wm_27_5, wm_27_6, wm_2_3, wm_27_7, by decide +kernel⟩
theorem lk_X7_264 : mm_LV RX7 264 RX0 mX0_drawKind 0 := ⟨wm_27_9, wm_27_10, wm_27_11, wm_1_19, wm_27_12, by decide +kernel⟩
theorem lk_X7_267 : mm_LV RX7 267 RX7 mX7_eyeOf 2 := ⟨wm_27_22, wm_27_23, wm_28_0, wm_1_2, wm_28_1, by decide +kernel⟩
theorem lk_X7_270 : mm_LV RX7 270 RX7 mX7_seenByDraws 2 := ⟨wm_28_7, wm_28_8, wm_28_9, wm_1_2, wm_28_10, by decide +kernel⟩
theorem lk_X7_273 : mm_LV RX7 273 RX0 mX0_draw 0 := ⟨wm_28_11, wm_27_14, wm_27_15, wm_1_19, wm_27_16, by decide +kernel⟩
theorem lk_X7_276 : mm_LV RX7 276 RX3 mX3_howManyBy 1 := ⟨wm_28_3, wm_28_4, wm_28_5, wm_2_7, wm_28_6, by decide +kernel⟩
theorem lk_X7_284 : mm_LV RX7 284 RX6 mX6_greatestOddsOf 1 := ⟨wm_20_6, wm_20_7, wm_20_8, wm_2_11, wm_20_9, by decide +kernel⟩
theorem lk_X7_287 : mm_LV RX7 287 RX7 mX7_isShownBefore 3 := ⟨wm_30_20, wm_30_21, wm_30_22, wm_1_2, wm_30_23, by decide +kernel⟩
theorem lk_X7_290 : mm_LS RX7 290 mX7_isIn 2 := ⟨wm_31_19, wm_31_20, wm_1_2, wm_31_21, by decide +kernel⟩
theorem lk_X7_293 : mm_LV RX7 293 RX7 mX7_isSure 2 := ⟨wm_41_1, wm_41_2, wm_41_3, wm_1_2, wm_41_4, by decide +kernel⟩
theorem lk_X7_296 : mm_LV RX7 296 RX7 mX7_isGivenAs 2 := ⟨wm_40_21, wm_40_22, wm_40_23, wm_1_2, wm_41_0, by decide +kernel⟩
theorem lk_X7_299 : mm_LV RX7 299 RX7 mX7_isGiven 1 := ⟨wm_40_17, wm_40_18, wm_40_19, wm_1_2, wm_40_20, by decide +kernel⟩
theorem lk_X8_88 : mm_LS RX8 88 mX8_atFirst 1 := ⟨wm_6_22, wm_6_23, wm_1_5, wm_7_0, by decide +kernel⟩
theorem lk_X8_92 : mm_LV RX8 92 RX8 mX8_beginOdds 0 := ⟨wm_7_1, wm_7_2, wm_7_3, wm_1_5, wm_7_4, by decide +kernel⟩
theorem lk_X8_100 : mm_LS RX8 100 mX8_in 3 := ⟨wm_8_2, wm_8_3, wm_1_5, wm_8_4, by decide +kernel⟩
theorem lk_X8_121 : mm_LV RX8 121 RX8 mX8_isWord 6 := ⟨wm_16_22, wm_16_23, wm_17_0, wm_1_5, wm_17_1, by decide +kernel⟩
theorem lk_X8_125 : mm_LV RX8 125 RX8 mX8_here 0 := ⟨wm_16_14, wm_16_15, wm_16_16, wm_1_5, wm_16_17, by decide +kernel⟩
theorem lk_X8_133 : mm_LV RX8 133 RX8 mX8_want 3 := ⟨wm_17_2, wm_17_3, wm_17_4, wm_1_5, wm_17_5, by decide +kernel⟩
theorem lk_X8_141 : mm_LV RX8 141 RX8 mX8_kindOf 0 := ⟨wm_16_18, wm_16_19, wm_16_20, wm_1_5, wm_16_21, by decide +kernel⟩
theorem lk_X8_144 : mm_LV RX8 144 RX8 mX8_takeNumber 2 := ⟨wm_17_6, wm_17_7, wm_17_8, wm_1_5, wm_17_9, by decide +kernel⟩
theorem lk_X8_148 : mm_LS RX8 148 mX8_one 1 := ⟨wm_17_12, wm_17_13, wm_1_5, wm_17_14, by decide +kernel⟩
theorem lk_X8_161 : mm_LV RX8 161 RX8 mX8_add 5 := ⟨wm_8_5, wm_8_6, wm_8_7, wm_1_5, wm_8_8, by decide +kernel⟩
theorem lk_X8_168 : mm_LV RX8 168 RX8 mX8_noPicture 1 := ⟨wm_9_21, wm_9_22, wm_9_23, wm_1_5, wm_10_0, by decide +kernel⟩
theorem lk_X8_177 : mm_LV RX8 177 RX8 mX8_greatestOdds 1 := ⟨wm_23_1, wm_23_2, wm_23_3, wm_1_5, wm_23_4, by decide +kernel⟩
theorem lk_X8_180 : mm_LV RX8 180 RX8 mX8_looksAt 1 := ⟨wm_23_5, wm_23_6, wm_23_7, wm_1_5, wm_23_8, by decide +kernel⟩
theorem lk_X8_183 : mm_LV RX8 183 RX8 mX8_greens 1 := ⟨wm_24_6, wm_24_7, wm_24_8, wm_1_5, wm_24_9, by decide +kernel⟩
theorem lk_X8_186 : mm_LV RX8 186 RX8 mX8_isDone 1 := ⟨wm_22_21, wm_22_22, wm_22_23, wm_1_5, wm_23_0, by decide +kernel⟩
theorem lk_X8_189 : mm_LV RX8 189 RX8 mX8_isStaying 1 := ⟨wm_23_13, wm_23_14, wm_23_15, wm_1_5, wm_23_16, by decide +kernel⟩
theorem lk_X8_192 : mm_LV RX8 192 RX8 mX8_knownMany 0 := ⟨wm_22_9, wm_22_10, wm_22_11, wm_1_5, wm_22_12, by decide +kernel⟩
theorem lk_X8_195 : mm_LV RX8 195 RX8 mX8_mirrors 0 := ⟨wm_22_13, wm_22_14, wm_22_15, wm_1_5, wm_22_16, by decide +kernel⟩
theorem lk_X8_198 : mm_LV RX8 198 RX8 mX8_doneMany 0 := ⟨wm_22_17, wm_22_18, wm_22_19, wm_1_5, wm_22_20, by decide +kernel⟩
theorem lk_X8_201 : mm_LV RX8 201 RX8 mX8_staying 0 := ⟨wm_23_9, wm_23_10, wm_23_11, wm_1_5, wm_23_12, by decide +kernel⟩
theorem lk_X8_217 : mm_LV RX8 217 RX8 mX8_noLooker 1 := ⟨wm_26_0, wm_26_1, wm_26_2, wm_1_5, wm_26_3, by decide +kernel⟩
theorem lk_X8_222 : mm_LV RX8 222 RX8 mX8_lookOf 2 := ⟨wm_26_4, wm_26_5, wm_26_6, wm_1_5, wm_26_7, by decide +kernel⟩
theorem lk_X8_225 : mm_LV RX8 225 RX8 mX8_addLook 3 := ⟨wm_26_8, wm_26_9, wm_26_10, wm_1_5, wm_26_11, by decide +kernel⟩
theorem lk_X8_229 : mm_LV RX8 229 RX8 mX8_looksBy 1 := ⟨wm_29_8, wm_29_9, wm_29_10, wm_1_5, wm_29_11, by decide +kernel⟩
theorem lk_X8_232 : mm_LV RX8 232 RX8 mX8_draw 0 := ⟨wm_28_20, wm_28_21, wm_28_22, wm_1_5, wm_28_23, by decide +kernel⟩
theorem lk_X8_235 : mm_LV RX8 235 RX8 mX8_eyeOf 2 := ⟨wm_29_4, wm_29_5, wm_29_6, wm_1_5, wm_29_7, by decide +kernel⟩
theorem lk_X8_238 : mm_LV RX8 238 RX8 mX8_saidOf 2 := ⟨wm_28_16, wm_28_17, wm_28_18, wm_1_5, wm_28_19, by decide +kernel⟩
theorem lk_X8_241 : mm_LV RX8 241 RX8 mX8_counts 1 := ⟨wm_30_5, wm_30_6, wm_30_7, wm_1_5, wm_30_8, by decide +kernel⟩
theorem lk_X8_244 : mm_LV RX8 244 RX8 mX8_nextOf 2 := ⟨wm_31_4, wm_31_5, wm_31_6, wm_1_5, wm_31_7, by decide +kernel⟩
theorem lk_X8_253 : mm_LV RX8 253 RX8 mX8_setOdds 3 := ⟨wm_36_9, wm_36_10, wm_36_11, wm_1_5, wm_36_12, by decide +kernel⟩
theorem lk_X8_259 : mm_LV RX8 259 RX8 mX8_findOdds 1 := ⟨wm_36_4, wm_36_5, wm_36_6, wm_1_5, wm_36_7, by decide +kernel⟩
theorem lk_X8_263 : mm_LV RX8 263 RX8 mX8_findTable 1 := ⟨wm_36_13, wm_36_14, wm_36_15, wm_1_5, wm_36_16, by decide +kernel⟩
theorem lk_X8_266 : mm_LV RX8 266 RX8 mX8_findSky 0 := ⟨wm_36_17, wm_36_18, wm_36_19, wm_1_5, wm_36_20, by decide +kernel⟩
theorem lk_X8_271 : mm_LV RX8 271 RX8 mX8_isSure 1 := ⟨wm_41_17, wm_41_18, wm_41_19, wm_1_5, wm_41_20, by decide +kernel⟩
theorem lk_X8_277 : mm_LV RX8 277 RX8 mX8_weightOf 1 := ⟨wm_46_5, wm_46_6, wm_46_7, wm_1_5, wm_46_8, by decide +kernel⟩
theorem lk_X8_280 : mm_LV RX8 280 RX8 mX8_findTrees 0 := ⟨wm_46_0, wm_46_1, wm_46_2, wm_1_5, wm_46_3, by decide +kernel⟩
theorem lk_X8_283 : mm_LV RX8 283 RX8 mX8_side 3 := ⟨wm_47_1, wm_47_2, wm_47_3, wm_1_5, wm_47_4, by decide +kernel⟩
def mm_FX (E : mm_E) : Prop := ∀ c, c < 35 → c ∈ E.2.1
def mm_FR (E : mm_E) : Prop := ∀ c, 35 ≤ c ∧ c < 60 → c ∈ E.2.1
section MCALL
variable {g : mm_G} {E : mm_E} {i : mm_I} {own : String} {post : Option Value → mm_M → Prop} {pc : Nat} {lv : List (Nat × Value)} {rest : List Value} {M M1 : mm_M}
theorem jr_cV0v (hg : mm_Ok g E i own) {C : String} {T : u_T} {N c ci idx : Nat} {fs : List Value} {j : mm_I} (hlk : mm_LV own idx C j 0) (hc : c ∈ E.2.1) (hcl : vwCl[ci]? = some (C, T, N)) (hcel : mm_cl E (M.1 c) (M.2 c) c = .inr (ci, fs)) (hlv : j.2.2.2.2 < i.2.2.2.2) (hml : j.2.2.1 ≤ 10) (hcat : (rest.map fun v => v.category).sum ≤ 8) (hd : decode i.2.1 pc = .ok (.invokevirtual idx, 3)) {v : Value} (hcal : mm_Cal E j (.ref (E.1 c) :: []) M (ret1 v M1)) (k : mm_J g E i post (pc + 3) lv (v :: rest) M1) : mm_J g E i post pc lv (.ref (E.1 c) :: rest) M := jr_callV (As := []) hg hlk hc hcl hcel rfl hlv hml hcat hd hcal (fun r M' h => by obtain ⟨rfl, rfl⟩ := h; exact k)
theorem jr_cV0u (hg : mm_Ok g E i own) {C : String} {T : u_T} {N c ci idx : Nat} {fs : List Value} {j : mm_I} (hlk : mm_LV own idx C j 0) (hc : c ∈ E.2.1) (hcl : vwCl[ci]? = some (C, T, N)) (hcel : mm_cl E (M.1 c) (M.2 c) c = .inr (ci, fs)) (hlv : j.2.2.2.2 < i.2.2.2.2) (hml : j.2.2.1 ≤ 10) (hcat : (rest.map fun v => v.category).sum ≤ 8) (hd : decode i.2.1 pc = .ok (.invokevirtual idx, 3)) (hcal : mm_Cal E j (.ref (E.1 c) :: []) M (ret0 M1)) (k : mm_J g E i post (pc + 3) lv rest M1) : mm_J g E i post pc lv (.ref (E.1 c) :: rest) M := jr_callV (As := []) hg hlk hc hcl hcel rfl hlv hml hcat hd hcal (fun r M' h => by obtain ⟨rfl, rfl⟩ := h; exact k)
theorem jr_cV0p (hg : mm_Ok g E i own) {C : String} {T : u_T} {N c ci idx : Nat} {fs : List Value} {j : mm_I} (hlk : mm_LV own idx C j 0) (hc : c ∈ E.2.1) (hcl : vwCl[ci]? = some (C, T, N)) (hcel : mm_cl E (M.1 c) (M.2 c) c = .inr (ci, fs)) (hlv : j.2.2.2.2 < i.2.2.2.2) (hml : j.2.2.1 ≤ 10) (hcat : (rest.map fun v => v.category).sum ≤ 8) (hd : decode i.2.1 pc = .ok (.invokevirtual idx, 3)) {post' : Option Value → mm_M → Prop} (hcal : mm_Cal E j (.ref (E.1 c) :: []) M post') (k : ∀ r M', post' r M' → mm_J g E i post (pc + 3) lv (r.toList ++ rest) M') : mm_J g E i post pc lv (.ref (E.1 c) :: rest) M := jr_callV (As := []) hg hlk hc hcl hcel rfl hlv hml hcat hd hcal k
theorem jr_cV1v (hg : mm_Ok g E i own) {C : String} {T : u_T} {N c ci idx : Nat} {fs : List Value} {a0 : Value} {j : mm_I} (hlk : mm_LV own idx C j 1) (hc : c ∈ E.2.1) (hcl : vwCl[ci]? = some (C, T, N)) (hcel : mm_cl E (M.1 c) (M.2 c) c = .inr (ci, fs)) (hlv : j.2.2.2.2 < i.2.2.2.2) (hml : j.2.2.1 ≤ 10) (hcat : (rest.map fun v => v.category).sum ≤ 8) (hd : decode i.2.1 pc = .ok (.invokevirtual idx, 3)) {v : Value} (hcal : mm_Cal E j (.ref (E.1 c) :: [a0]) M (ret1 v M1)) (k : mm_J g E i post (pc + 3) lv (v :: rest) M1) : mm_J g E i post pc lv (a0 :: .ref (E.1 c) :: rest) M := jr_callV (As := [a0]) hg hlk hc hcl hcel rfl hlv hml hcat hd hcal (fun r M' h => by obtain ⟨rfl, rfl⟩ := h; exact k)
theorem jr_cV1u (hg : mm_Ok g E i own) {C : String} {T : u_T} {N c ci idx : Nat} {fs : List Value} {a0 : Value} {j : mm_I} (hlk : mm_LV own idx C j 1) (hc : c ∈ E.2.1) (hcl : vwCl[ci]? = some (C, T, N)) (hcel : mm_cl E (M.1 c) (M.2 c) c = .inr (ci, fs)) (hlv : j.2.2.2.2 < i.2.2.2.2) (hml : j.2.2.1 ≤ 10) (hcat : (rest.map fun v => v.category).sum ≤ 8) (hd : decode i.2.1 pc = .ok (.invokevirtual idx, 3)) (hcal : mm_Cal E j (.ref (E.1 c) :: [a0]) M (ret0 M1)) (k : mm_J g E i post (pc + 3) lv rest M1) : mm_J g E i post pc lv (a0 :: .ref (E.1 c) :: rest) M := jr_callV (As := [a0]) hg hlk hc hcl hcel rfl hlv hml hcat hd hcal (fun r M' h => by obtain ⟨rfl, rfl⟩ := h; exact k)
theorem jr_cV1p (hg : mm_Ok g E i own) {C : String} {T : u_T} {N c ci idx : Nat} {fs : List Value} {a0 : Value} {j : mm_I} (hlk : mm_LV own idx C j 1) (hc : c ∈ E.2.1) (hcl : vwCl[ci]? = some (C, T, N)) (hcel : mm_cl E (M.1 c) (M.2 c) c = .inr (ci, fs)) (hlv : j.2.2.2.2 < i.2.2.2.2) (hml : j.2.2.1 ≤ 10) (hcat : (rest.map fun v => v.category).sum ≤ 8) (hd : decode i.2.1 pc = .ok (.invokevirtual idx, 3)) {post' : Option Value → mm_M → Prop} (hcal : mm_Cal E j (.ref (E.1 c) :: [a0]) M post') (k : ∀ r M', post' r M' → mm_J g E i post (pc + 3) lv (r.toList ++ rest) M') : mm_J g E i post pc lv (a0 :: .ref (E.1 c) :: rest) M := jr_callV (As := [a0]) hg hlk hc hcl hcel rfl hlv hml hcat hd hcal k
theorem jr_cV2v (hg : mm_Ok g E i own) {C : String} {T : u_T} {N c ci idx : Nat} {fs : List Value} {a0 a1 : Value} {j : mm_I} (hlk : mm_LV own idx C j 2) (hc : c ∈ E.2.1) (hcl : vwCl[ci]? = some (C, T, N)) (hcel : mm_cl E (M.1 c) (M.2 c) c = .inr (ci, fs)) (hlv : j.2.2.2.2 < i.2.2.2.2) (hml : j.2.2.1 ≤ 10) (hcat : (rest.map fun v => v.category).sum ≤ 8) (hd : decode i.2.1 pc = .ok (.invokevirtual idx, 3)) {v : Value} (hcal : mm_Cal E j (.ref (E.1 c) :: [a0, a1]) M (ret1 v M1)) (k : mm_J g E i post (pc + 3) lv (v :: rest) M1) : mm_J g E i post pc lv (a1 :: a0 :: .ref (E.1 c) :: rest) M := jr_callV (As := [a0, a1]) hg hlk hc hcl hcel rfl hlv hml hcat hd hcal (fun r M' h => by obtain ⟨rfl, rfl⟩ := h; exact k)
theorem jr_cV2u (hg : mm_Ok g E i own) {C : String} {T : u_T} {N c ci idx : Nat} {fs : List Value} {a0 a1 : Value} {j : mm_I} (hlk : mm_LV own idx C j 2) (hc : c ∈ E.2.1) (hcl : vwCl[ci]? = some (C, T, N)) (hcel : mm_cl E (M.1 c) (M.2 c) c = .inr (ci, fs)) (hlv : j.2.2.2.2 < i.2.2.2.2) (hml : j.2.2.1 ≤ 10) (hcat : (rest.map fun v => v.category).sum ≤ 8) (hd : decode i.2.1 pc = .ok (.invokevirtual idx, 3)) (hcal : mm_Cal E j (.ref (E.1 c) :: [a0, a1]) M (ret0 M1)) (k : mm_J g E i post (pc + 3) lv rest M1) : mm_J g E i post pc lv (a1 :: a0 :: .ref (E.1 c) :: rest) M := jr_callV (As := [a0, a1]) hg hlk hc hcl hcel rfl hlv hml hcat hd hcal (fun r M' h => by obtain ⟨rfl, rfl⟩ := h; exact k)
theorem jr_cV2p (hg : mm_Ok g E i own) {C : String} {T : u_T} {N c ci idx : Nat} {fs : List Value} {a0 a1 : Value} {j : mm_I} (hlk : mm_LV own idx C j 2) (hc : c ∈ E.2.1) (hcl : vwCl[ci]? = some (C, T, N)) (hcel : mm_cl E (M.1 c) (M.2 c) c = .inr (ci, fs)) (hlv : j.2.2.2.2 < i.2.2.2.2) (hml : j.2.2.1 ≤ 10) (hcat : (rest.map fun v => v.category).sum ≤ 8) (hd : decode i.2.1 pc = .ok (.invokevirtual idx, 3)) {post' : Option Value → mm_M → Prop} (hcal : mm_Cal E j (.ref (E.1 c) :: [a0, a1]) M post') (k : ∀ r M', post' r M' → mm_J g E i post (pc + 3) lv (r.toList ++ rest) M') : mm_J g E i post pc lv (a1 :: a0 :: .ref (E.1 c) :: rest) M := jr_callV (As := [a0, a1]) hg hlk hc hcl hcel rfl hlv hml hcat hd hcal k
theorem jr_cV3v (hg : mm_Ok g E i own) {C : String} {T : u_T} {N c ci idx : Nat} {fs : List Value} {a0 a1 a2 : Value} {j : mm_I} (hlk : mm_LV own idx C j 3) (hc : c ∈ E.2.1) (hcl : vwCl[ci]? = some (C, T, N)) (hcel : mm_cl E (M.1 c) (M.2 c) c = .inr (ci, fs)) (hlv : j.2.2.2.2 < i.2.2.2.2) (hml : j.2.2.1 ≤ 10) (hcat : (rest.map fun v => v.category).sum ≤ 8) (hd : decode i.2.1 pc = .ok (.invokevirtual idx, 3)) {v : Value} (hcal : mm_Cal E j (.ref (E.1 c) :: [a0, a1, a2]) M (ret1 v M1)) (k : mm_J g E i post (pc + 3) lv (v :: rest) M1) : mm_J g E i post pc lv (a2 :: a1 :: a0 :: .ref (E.1 c) :: rest) M := jr_callV (As := [a0, a1, a2]) hg hlk hc hcl hcel rfl hlv hml hcat hd hcal (fun r M' h => by obtain ⟨rfl, rfl⟩ := h; exact k)
theorem jr_cV3u (hg : mm_Ok g E i own) {C : String} {T : u_T} {N c ci idx : Nat} {fs : List Value} {a0 a1 a2 : Value} {j : mm_I} (hlk : mm_LV own idx C j 3) (hc : c ∈ E.2.1) (hcl : vwCl[ci]? = some (C, T, N)) (hcel : mm_cl E (M.1 c) (M.2 c) c = .inr (ci, fs)) (hlv : j.2.2.2.2 < i.2.2.2.2) (hml : j.2.2.1 ≤ 10) (hcat : (rest.map fun v => v.category).sum ≤ 8) (hd : decode i.2.1 pc = .ok (.invokevirtual idx, 3)) (hcal : mm_Cal E j (.ref (E.1 c) :: [a0, a1, a2]) M (ret0 M1)) (k : mm_J g E i post (pc + 3) lv rest M1) : mm_J g E i post pc lv (a2 :: a1 :: a0 :: .ref (E.1 c) :: rest) M := jr_callV (As := [a0, a1, a2]) hg hlk hc hcl hcel rfl hlv hml hcat hd hcal (fun r M' h => by obtain ⟨rfl, rfl⟩ := h; exact k)
theorem jr_cV3p (hg : mm_Ok g E i own) {C : String} {T : u_T} {N c ci idx : Nat} {fs : List Value} {a0 a1 a2 : Value} {j : mm_I} (hlk : mm_LV own idx C j 3) (hc : c ∈ E.2.1) (hcl : vwCl[ci]? = some (C, T, N)) (hcel : mm_cl E (M.1 c) (M.2 c) c = .inr (ci, fs)) (hlv : j.2.2.2.2 < i.2.2.2.2) (hml : j.2.2.1 ≤ 10) (hcat : (rest.map fun v => v.category).sum ≤ 8) (hd : decode i.2.1 pc = .ok (.invokevirtual idx, 3)) {post' : Option Value → mm_M → Prop} (hcal : mm_Cal E j (.ref (E.1 c) :: [a0, a1, a2]) M post') (k : ∀ r M', post' r M' → mm_J g E i post (pc + 3) lv (r.toList ++ rest) M') : mm_J g E i post pc lv (a2 :: a1 :: a0 :: .ref (E.1 c) :: rest) M := jr_callV (As := [a0, a1, a2]) hg hlk hc hcl hcel rfl hlv hml hcat hd hcal k
theorem jr_cV4v (hg : mm_Ok g E i own) {C : String} {T : u_T} {N c ci idx : Nat} {fs : List Value} {a0 a1 a2 a3 : Value} {j : mm_I} (hlk : mm_LV own idx C j 4) (hc : c ∈ E.2.1) (hcl : vwCl[ci]? = some (C, T, N)) (hcel : mm_cl E (M.1 c) (M.2 c) c = .inr (ci, fs)) (hlv : j.2.2.2.2 < i.2.2.2.2) (hml : j.2.2.1 ≤ 10) (hcat : (rest.map fun v => v.category).sum ≤ 8) (hd : decode i.2.1 pc = .ok (.invokevirtual idx, 3)) {v : Value} (hcal : mm_Cal E j (.ref (E.1 c) :: [a0, a1, a2, a3]) M (ret1 v M1)) (k : mm_J g E i post (pc + 3) lv (v :: rest) M1) : mm_J g E i post pc lv (a3 :: a2 :: a1 :: a0 :: .ref (E.1 c) :: rest) M := jr_callV (As := [a0, a1, a2, a3]) hg hlk hc hcl hcel rfl hlv hml hcat hd hcal (fun r M' h => by obtain ⟨rfl, rfl⟩ := h; exact k)
theorem jr_cV4u (hg : mm_Ok g E i own) {C : String} {T : u_T} {N c ci idx : Nat} {fs : List Value} {a0 a1 a2 a3 : Value} {j : mm_I} (hlk : mm_LV own idx C j 4) (hc : c ∈ E.2.1) (hcl : vwCl[ci]? = some (C, T, N)) (hcel : mm_cl E (M.1 c) (M.2 c) c = .inr (ci, fs)) (hlv : j.2.2.2.2 < i.2.2.2.2) (hml : j.2.2.1 ≤ 10) (hcat : (rest.map fun v => v.category).sum ≤ 8) (hd : decode i.2.1 pc = .ok (.invokevirtual idx, 3)) (hcal : mm_Cal E j (.ref (E.1 c) :: [a0, a1, a2, a3]) M (ret0 M1)) (k : mm_J g E i post (pc + 3) lv rest M1) : mm_J g E i post pc lv (a3 :: a2 :: a1 :: a0 :: .ref (E.1 c) :: rest) M := jr_callV (As := [a0, a1, a2, a3]) hg hlk hc hcl hcel rfl hlv hml hcat hd hcal (fun r M' h => by obtain ⟨rfl, rfl⟩ := h; exact k)
theorem jr_cV4p (hg : mm_Ok g E i own) {C : String} {T : u_T} {N c ci idx : Nat} {fs : List Value} {a0 a1 a2 a3 : Value} {j : mm_I} (hlk : mm_LV own idx C j 4) (hc : c ∈ E.2.1) (hcl : vwCl[ci]? = some (C, T, N)) (hcel : mm_cl E (M.1 c) (M.2 c) c = .inr (ci, fs)) (hlv : j.2.2.2.2 < i.2.2.2.2) (hml : j.2.2.1 ≤ 10) (hcat : (rest.map fun v => v.category).sum ≤ 8) (hd : decode i.2.1 pc = .ok (.invokevirtual idx, 3)) {post' : Option Value → mm_M → Prop} (hcal : mm_Cal E j (.ref (E.1 c) :: [a0, a1, a2, a3]) M post') (k : ∀ r M', post' r M' → mm_J g E i post (pc + 3) lv (r.toList ++ rest) M') : mm_J g E i post pc lv (a3 :: a2 :: a1 :: a0 :: .ref (E.1 c) :: rest) M := jr_callV (As := [a0, a1, a2, a3]) hg hlk hc hcl hcel rfl hlv hml hcat hd hcal k
theorem jr_cV5v (hg : mm_Ok g E i own) {C : String} {T : u_T} {N c ci idx : Nat} {fs : List Value} {a0 a1 a2 a3 a4 : Value} {j : mm_I} (hlk : mm_LV own idx C j 5) (hc : c ∈ E.2.1) (hcl : vwCl[ci]? = some (C, T, N)) (hcel : mm_cl E (M.1 c) (M.2 c) c = .inr (ci, fs)) (hlv : j.2.2.2.2 < i.2.2.2.2) (hml : j.2.2.1 ≤ 10) (hcat : (rest.map fun v => v.category).sum ≤ 8) (hd : decode i.2.1 pc = .ok (.invokevirtual idx, 3)) {v : Value} (hcal : mm_Cal E j (.ref (E.1 c) :: [a0, a1, a2, a3, a4]) M (ret1 v M1)) (k : mm_J g E i post (pc + 3) lv (v :: rest) M1) : mm_J g E i post pc lv (a4 :: a3 :: a2 :: a1 :: a0 :: .ref (E.1 c) :: rest) M := jr_callV (As := [a0, a1, a2, a3, a4]) hg hlk hc hcl hcel rfl hlv hml hcat hd hcal (fun r M' h => by obtain ⟨rfl, rfl⟩ := h; exact k)
theorem jr_cV5u (hg : mm_Ok g E i own) {C : String} {T : u_T} {N c ci idx : Nat} {fs : List Value} {a0 a1 a2 a3 a4 : Value} {j : mm_I} (hlk : mm_LV own idx C j 5) (hc : c ∈ E.2.1) (hcl : vwCl[ci]? = some (C, T, N)) (hcel : mm_cl E (M.1 c) (M.2 c) c = .inr (ci, fs)) (hlv : j.2.2.2.2 < i.2.2.2.2) (hml : j.2.2.1 ≤ 10) (hcat : (rest.map fun v => v.category).sum ≤ 8) (hd : decode i.2.1 pc = .ok (.invokevirtual idx, 3)) (hcal : mm_Cal E j (.ref (E.1 c) :: [a0, a1, a2, a3, a4]) M (ret0 M1)) (k : mm_J g E i post (pc + 3) lv rest M1) : mm_J g E i post pc lv (a4 :: a3 :: a2 :: a1 :: a0 :: .ref (E.1 c) :: rest) M := jr_callV (As := [a0, a1, a2, a3, a4]) hg hlk hc hcl hcel rfl hlv hml hcat hd hcal (fun r M' h => by obtain ⟨rfl, rfl⟩ := h; exact k)
theorem jr_cV5p (hg : mm_Ok g E i own) {C : String} {T : u_T} {N c ci idx : Nat} {fs : List Value} {a0 a1 a2 a3 a4 : Value} {j : mm_I} (hlk : mm_LV own idx C j 5) (hc : c ∈ E.2.1) (hcl : vwCl[ci]? = some (C, T, N)) (hcel : mm_cl E (M.1 c) (M.2 c) c = .inr (ci, fs)) (hlv : j.2.2.2.2 < i.2.2.2.2) (hml : j.2.2.1 ≤ 10) (hcat : (rest.map fun v => v.category).sum ≤ 8) (hd : decode i.2.1 pc = .ok (.invokevirtual idx, 3)) {post' : Option Value → mm_M → Prop} (hcal : mm_Cal E j (.ref (E.1 c) :: [a0, a1, a2, a3, a4]) M post') (k : ∀ r M', post' r M' → mm_J g E i post (pc + 3) lv (r.toList ++ rest) M') : mm_J g E i post pc lv (a4 :: a3 :: a2 :: a1 :: a0 :: .ref (E.1 c) :: rest) M := jr_callV (As := [a0, a1, a2, a3, a4]) hg hlk hc hcl hcel rfl hlv hml hcat hd hcal k
theorem jr_cS0v (hg : mm_Ok g E i own) {idx : Nat} {j : mm_I} (hlk : mm_LS own idx j 0) (hlv : j.2.2.2.2 < i.2.2.2.2) (hml : j.2.2.1 ≤ 10) (hcat : (rest.map fun v => v.category).sum ≤ 8) (hd : decode i.2.1 pc = .ok (.invokestatic idx, 3)) {v : Value} (hcal : mm_Cal E j [] M (ret1 v M1)) (k : mm_J g E i post (pc + 3) lv (v :: rest) M1) : mm_J g E i post pc lv (rest) M := jr_callS (As := []) hg hlk rfl hlv hml hcat hd hcal (fun r M' h => by obtain ⟨rfl, rfl⟩ := h; exact k)
theorem jr_cS1v (hg : mm_Ok g E i own) {idx : Nat} {a0 : Value} {j : mm_I} (hlk : mm_LS own idx j 1) (hlv : j.2.2.2.2 < i.2.2.2.2) (hml : j.2.2.1 ≤ 10) (hcat : (rest.map fun v => v.category).sum ≤ 8) (hd : decode i.2.1 pc = .ok (.invokestatic idx, 3)) {v : Value} (hcal : mm_Cal E j [a0] M (ret1 v M1)) (k : mm_J g E i post (pc + 3) lv (v :: rest) M1) : mm_J g E i post pc lv (a0 :: rest) M := jr_callS (As := [a0]) hg hlk rfl hlv hml hcat hd hcal (fun r M' h => by obtain ⟨rfl, rfl⟩ := h; exact k)
theorem jr_cS2v (hg : mm_Ok g E i own) {idx : Nat} {a0 a1 : Value} {j : mm_I} (hlk : mm_LS own idx j 2) (hlv : j.2.2.2.2 < i.2.2.2.2) (hml : j.2.2.1 ≤ 10) (hcat : (rest.map fun v => v.category).sum ≤ 8) (hd : decode i.2.1 pc = .ok (.invokestatic idx, 3)) {v : Value} (hcal : mm_Cal E j [a0, a1] M (ret1 v M1)) (k : mm_J g E i post (pc + 3) lv (v :: rest) M1) : mm_J g E i post pc lv (a1 :: a0 :: rest) M := jr_callS (As := [a0, a1]) hg hlk rfl hlv hml hcat hd hcal (fun r M' h => by obtain ⟨rfl, rfl⟩ := h; exact k)
theorem jr_cS3v (hg : mm_Ok g E i own) {idx : Nat} {a0 a1 a2 : Value} {j : mm_I} (hlk : mm_LS own idx j 3) (hlv : j.2.2.2.2 < i.2.2.2.2) (hml : j.2.2.1 ≤ 10) (hcat : (rest.map fun v => v.category).sum ≤ 8) (hd : decode i.2.1 pc = .ok (.invokestatic idx, 3)) {v : Value} (hcal : mm_Cal E j [a0, a1, a2] M (ret1 v M1)) (k : mm_J g E i post (pc + 3) lv (v :: rest) M1) : mm_J g E i post pc lv (a2 :: a1 :: a0 :: rest) M := jr_callS (As := [a0, a1, a2]) hg hlk rfl hlv hml hcat hd hcal (fun r M' h => by obtain ⟨rfl, rfl⟩ := h; exact k)
theorem jr_cS4v (hg : mm_Ok g E i own) {idx : Nat} {a0 a1 a2 a3 : Value} {j : mm_I} (hlk : mm_LS own idx j 4) (hlv : j.2.2.2.2 < i.2.2.2.2) (hml : j.2.2.1 ≤ 10) (hcat : (rest.map fun v => v.category).sum ≤ 8) (hd : decode i.2.1 pc = .ok (.invokestatic idx, 3)) {v : Value} (hcal : mm_Cal E j [a0, a1, a2, a3] M (ret1 v M1)) (k : mm_J g E i post (pc + 3) lv (v :: rest) M1) : mm_J g E i post pc lv (a3 :: a2 :: a1 :: a0 :: rest) M := jr_callS (As := [a0, a1, a2, a3]) hg hlk rfl hlv hml hcat hd hcal (fun r M' h => by obtain ⟨rfl, rfl⟩ := h; exact k)
theorem jr_cS5v (hg : mm_Ok g E i own) {idx : Nat} {a0 a1 a2 a3 a4 : Value} {j : mm_I} (hlk : mm_LS own idx j 5) (hlv : j.2.2.2.2 < i.2.2.2.2) (hml : j.2.2.1 ≤ 10) (hcat : (rest.map fun v => v.category).sum ≤ 8) (hd : decode i.2.1 pc = .ok (.invokestatic idx, 3)) {v : Value} (hcal : mm_Cal E j [a0, a1, a2, a3, a4] M (ret1 v M1)) (k : mm_J g E i post (pc + 3) lv (v :: rest) M1) : mm_J g E i post pc lv (a4 :: a3 :: a2 :: a1 :: a0 :: rest) M := jr_callS (As := [a0, a1, a2, a3, a4]) hg hlk rfl hlv hml hcat hd hcal (fun r M' h => by obtain ⟨rfl, rfl⟩ := h; exact k)
theorem jr_cS6v (hg : mm_Ok g E i own) {idx : Nat} {a0 a1 a2 a3 a4 a5 : Value} {j : mm_I} (hlk : mm_LS own idx j 6) (hlv : j.2.2.2.2 < i.2.2.2.2) (hml : j.2.2.1 ≤ 10) (hcat : (rest.map fun v => v.category).sum ≤ 8) (hd : decode i.2.1 pc = .ok (.invokestatic idx, 3)) {v : Value} (hcal : mm_Cal E j [a0, a1, a2, a3, a4, a5] M (ret1 v M1)) (k : mm_J g E i post (pc + 3) lv (v :: rest) M1) : mm_J g E i post pc lv (a5 :: a4 :: a3 :: a2 :: a1 :: a0 :: rest) M := jr_callS (As := [a0, a1, a2, a3, a4, a5]) hg hlk rfl hlv hml hcat hd hcal (fun r M' h => by obtain ⟨rfl, rfl⟩ := h; exact k)
theorem cn_X1_49 (hg : mm_Ok g E i RX1) {a0 : Value} (hlv : 0 < i.2.2.2.2) (hcat : (rest.map fun v => v.category).sum ≤ 8) (hd : decode i.2.1 pc = .ok (.invokestatic 49, 3)) {v : Value} (hcal : mm_Cal E mX7_oneIf [a0] M (ret1 v M1)) (k : mm_J g E i post (pc + 3) lv (v :: rest) M1) : mm_J g E i post pc lv (a0 :: rest) M := jr_callSN (As := [a0]) (j := mX7_oneIf) (n := 1) hg hg.2.2.2.2.2.2.2.2.2.1.1 wm_16_2 wm_1_2 wm_16_3 (by decide +kernel) rfl hlv (by decide) hcat hd hcal (fun r M' h => by obtain ⟨rfl, rfl⟩ := h; exact k)
theorem cn_X3_45 (hg : mm_Ok g E i RX3) {a0 : Value} (hlv : 0 < i.2.2.2.2) (hcat : (rest.map fun v => v.category).sum ≤ 8) (hd : decode i.2.1 pc = .ok (.invokestatic 45, 3)) {v : Value} (hcal : mm_Cal E mX7_oneIf [a0] M (ret1 v M1)) (k : mm_J g E i post (pc + 3) lv (v :: rest) M1) : mm_J g E i post pc lv (a0 :: rest) M := jr_callSN (As := [a0]) (j := mX7_oneIf) (n := 1) hg hg.2.2.2.2.2.2.2.2.2.1.2.1 wm_16_2 wm_1_2 wm_16_3 (by decide +kernel) rfl hlv (by decide) hcat hd hcal (fun r M' h => by obtain ⟨rfl, rfl⟩ := h; exact k)
theorem cn_X4_39 (hg : mm_Ok g E i RX4) {a0 : Value} (hlv : 0 < i.2.2.2.2) (hcat : (rest.map fun v => v.category).sum ≤ 8) (hd : decode i.2.1 pc = .ok (.invokestatic 39, 3)) {v : Value} (hcal : mm_Cal E mX7_oneIf [a0] M (ret1 v M1)) (k : mm_J g E i post (pc + 3) lv (v :: rest) M1) : mm_J g E i post pc lv (a0 :: rest) M := jr_callSN (As := [a0]) (j := mX7_oneIf) (n := 1) hg hg.2.2.2.2.2.2.2.2.2.1.2.2.1 wm_16_2 wm_1_2 wm_16_3 (by decide +kernel) rfl hlv (by decide) hcat hd hcal (fun r M' h => by obtain ⟨rfl, rfl⟩ := h; exact k)
theorem cn_X5_62 (hg : mm_Ok g E i RX5) {a0 a1 : Value} (hlv : 0 < i.2.2.2.2) (hcat : (rest.map fun v => v.category).sum ≤ 8) (hd : decode i.2.1 pc = .ok (.invokestatic 62, 3)) {v : Value} (hcal : mm_Cal E mX7_isIn [a0, a1] M (ret1 v M1)) (k : mm_J g E i post (pc + 3) lv (v :: rest) M1) : mm_J g E i post pc lv (a1 :: a0 :: rest) M := jr_callSN (As := [a0, a1]) (j := mX7_isIn) (n := 2) hg hg.2.2.2.2.2.2.2.2.2.1.2.2.2 wm_31_20 wm_1_2 wm_31_21 (by decide +kernel) rfl hlv (by decide) hcat hd hcal (fun r M' h => by obtain ⟨rfl, rfl⟩ := h; exact k)
end MCALL
