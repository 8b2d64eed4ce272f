theorem z_rem2 {i j : Int32} (hi : 1 ≤ i.toInt ∧ i.toInt ≤ 15) (hj : 1 ≤ j.toInt ∧ j.toInt ≤ 15) : ((i + j) - (i + j) / nI 2 * nI 2 = nI 1) ↔ (i.toInt + j.toInt) % 2 = 1 := by
  have ei := z_nat (x := i) (by omega)
  have ej := z_nat (x := j) (by omega)
  generalize hm : i.toInt.toNat = a at ei
  generalize hn : j.toInt.toNat = c at ej
  have h1 : i.toInt = (a : Int) := by omega
  have h2 : j.toInt = (c : Int) := by omega
  rw [h1, h2, ei, ej, nI_add, pk_rem (by omega) (by decide) (by decide), nI_eq (by omega) (by decide)]
  omega
set_option maxHeartbeats 1000000 in
set_option maxRecDepth 100000 in
theorem c_X8_isIn (S : am_S) (I : am_I) (v lo hi : Int32) : am_Mt 0 Y_X8_isIn (0, 0) [.int v, .int lo, .int hi] S I (am_q (some (.int (am_b (decide (lo.toInt ≤ v.toInt ∧ v.toInt ≤ hi.toInt))))) S I) := by
  refine am_mt ⟨by decide +kernel, rfl⟩ (Nat.le_of_ble_eq_true rfl) rfl ?_
  refine rn_iload_n dX8_isIn_0 rfl rfl ?_
  refine rn_iload_n dX8_isIn_1 rfl rfl ?_
  refine rn_icmp_lt (tgt := 14) dX8_isIn_2 (by decide) (fun c_2 => ?_) (fun c_2 => ?_)
  · refine rn_iconst (v := nI 0) dX8_isIn_14 (by decide) ?_
    refine rn_ireturn dX8_isIn_15 rfl (by decide) ?_
    exact ⟨by rw [am_b_f (decide_eq_false (by simp only [z_le, z_lt] at *; omega))]; rfl, rfl, rfl⟩
  · refine rn_iload_n dX8_isIn_5 rfl rfl ?_
    refine rn_iload_n dX8_isIn_6 rfl rfl ?_
    refine rn_icmp_gt (tgt := 14) dX8_isIn_7 (by decide) (fun c_7 => ?_) (fun c_7 => ?_)
    · refine rn_iconst (v := nI 0) dX8_isIn_14 (by decide) ?_
      refine rn_ireturn dX8_isIn_15 rfl (by decide) ?_
      exact ⟨by rw [am_b_f (decide_eq_false (by simp only [z_le, z_lt] at *; omega))]; rfl, rfl, rfl⟩
    · refine rn_iconst (v := nI 1) dX8_isIn_10 (by decide) ?_
      refine rn_goto (tgt := 15) dX8_isIn_11 (by decide) ?_
      refine rn_ireturn dX8_isIn_15 rfl (by decide) ?_
      exact ⟨by rw [am_b_t (decide_eq_true (by simp only [z_le, z_lt] at *; omega))]; rfl, rfl, rfl⟩
set_option maxHeartbeats 1000000 in
set_option maxRecDepth 100000 in
theorem c_X8_cell (S : am_S) (I : am_I) (g i j : Nat) : am_Mt 0 Y_X8_cell (0, 0) [.int (nI g), .int (nI i), .int (nI j)] S I (am_q (some (.int (nI (289 * g + 17 * j + i)))) S I) := by
  refine am_mt ⟨by decide +kernel, rfl⟩ (Nat.le_of_ble_eq_true rfl) rfl ?_
  refine rn_sipush (v := nI 289) dX8_cell_0 (by decide) ?_
  refine rn_iload_n dX8_cell_3 rfl rfl ?_
  refine rn_imul dX8_cell_4 ?_
  refine rn_top (pk_mul _ _) ?_
  refine rn_bipush (v := nI 17) dX8_cell_5 (by decide) ?_
  refine rn_iload_n dX8_cell_7 rfl rfl ?_
  refine rn_imul dX8_cell_8 ?_
  refine rn_top (pk_mul _ _) ?_
  refine rn_iadd dX8_cell_9 ?_
  refine rn_top (nI_add _ _) ?_
  refine rn_iload_n dX8_cell_10 rfl rfl ?_
  refine rn_iadd dX8_cell_11 ?_
  refine rn_top (nI_add _ _) ?_
  refine rn_ireturn dX8_cell_12 rfl (vp_nar_int _) ?_
  exact ⟨rfl, rfl, rfl⟩
set_option maxHeartbeats 1000000 in
set_option maxRecDepth 100000 in
theorem c_X8_isInner {S : am_S} (hs : sk S) {I : am_I} {g w h : Nat} (hg : g < 20) (hw : I 45 g = nI w) (hh : I 46 g = nI h) (w1 : 1 ≤ w) (w8 : w ≤ 8) (h1 : 1 ≤ h) (h8 : h ≤ 8) (i j : Int32) : am_Mt 1 Y_X8_isInner (0, 0) [.ref 44, .int (nI g), .int i, .int j] S I (am_q (some (.int (am_b (pInner w h i j)))) S I) := by
  have e1 := z_nI (n := 1) (by decide)
  have e2w := z_nI (n := 2 * w - 1) (by omega)
  have e2h := z_nI (n := 2 * h - 1) (by omega)
  refine am_mt ⟨by decide +kernel, rfl⟩ (Nat.le_of_ble_eq_true rfl) rfl ?_
  refine rn_iload_n dX8_isInner_0 rfl rfl ?_
  refine rn_iconst (v := nI 1) dX8_isInner_1 (by decide) ?_
  refine rn_iconst (v := nI 2) dX8_isInner_2 (by decide) ?_
  refine rn_aload_n dX8_isInner_3 rfl rfl ?_
  refine rn_getR (r := 45) dX8_isInner_4 fd_8_7 (sk_l hs 44 (by decide)) (sk_k44 hs) rfl (sk_r44_0 hs) ?_
  refine rn_iload_n dX8_isInner_7 rfl rfl ?_
  refine rn_ialoadN dX8_isInner_8 (sk_l hs 45 (by decide)) (sk_k45 hs) (by omega) (by omega) ?_
  refine rn_top (y := nI w) (hw) ?_
  refine rn_imul dX8_isInner_9 ?_
  refine rn_top (pk_mul _ _) ?_
  refine rn_iconst (v := nI 1) dX8_isInner_10 (by decide) ?_
  refine rn_isub dX8_isInner_11 ?_
  refine rn_top (pk_sub (by omega)) ?_
  refine rn_callSq (st := []) dX8_isInner_12 cf_8_70 (c_X8_isIn S I _ _ _) (by decide) rfl rfl (Nat.le_of_ble_eq_true rfl) ?_
  refine rn_if_eqB (tgt := 49) dX8_isInner_15 (by decide) (fun c_15 => ?_) (fun c_15 => ?_)
  · refine rn_iconst (v := nI 0) dX8_isInner_49 (by decide) ?_
    refine rn_ireturn dX8_isInner_50 rfl (by decide) ?_
    exact ⟨by rw [show pInner w h i j = false from decide_eq_false (fun hp => by first | (have b2 := of_decide_eq_true c_33; have b1 := of_decide_eq_true c_15; rw [e1, e2w] at b1; rw [e1, e2h] at b2; exact c_42 ((z_rem2 (by omega) (by omega)).mpr hp.2.2.2.2)) | (have b1 := of_decide_eq_false c_33; rw [e1, e2h] at b1; omega) | (have b1 := of_decide_eq_false c_15; rw [e1, e2w] at b1; omega))]; rfl, rfl, rfl⟩
  · refine rn_iload_n dX8_isInner_18 rfl rfl ?_
    refine rn_iconst (v := nI 1) dX8_isInner_19 (by decide) ?_
    refine rn_iconst (v := nI 2) dX8_isInner_20 (by decide) ?_
    refine rn_aload_n dX8_isInner_21 rfl rfl ?_
    refine rn_getR (r := 46) dX8_isInner_22 fd_8_13 (sk_l hs 44 (by decide)) (sk_k44 hs) rfl (sk_r44_1 hs) ?_
    refine rn_iload_n dX8_isInner_25 rfl rfl ?_
    refine rn_ialoadN dX8_isInner_26 (sk_l hs 46 (by decide)) (sk_k46 hs) (by omega) (by omega) ?_
    refine rn_top (y := nI h) (hh) ?_
    refine rn_imul dX8_isInner_27 ?_
    refine rn_top (pk_mul _ _) ?_
    refine rn_iconst (v := nI 1) dX8_isInner_28 (by decide) ?_
    refine rn_isub dX8_isInner_29 ?_
    refine rn_top (pk_sub (by omega)) ?_
    refine rn_callSq (st := []) dX8_isInner_30 cf_8_70 (c_X8_isIn S I _ _ _) (by decide) rfl rfl (Nat.le_of_ble_eq_true rfl) ?_
    refine rn_if_eqB (tgt := 49) dX8_isInner_33 (by decide) (fun c_33 => ?_) (fun c_33 => ?_)
    · refine rn_iconst (v := nI 0) dX8_isInner_49 (by decide) ?_
      refine rn_ireturn dX8_isInner_50 rfl (by decide) ?_
      exact ⟨by rw [show pInner w h i j = false from decide_eq_false (fun hp => by first | (have b2 := of_decide_eq_true c_33; have b1 := of_decide_eq_true c_15; rw [e1, e2w] at b1; rw [e1, e2h] at b2; exact c_42 ((z_rem2 (by omega) (by omega)).mpr hp.2.2.2.2)) | (have b1 := of_decide_eq_false c_33; rw [e1, e2h] at b1; omega) | (have b1 := of_decide_eq_false c_15; rw [e1, e2w] at b1; omega))]; rfl, rfl, rfl⟩
    · refine rn_iload_n dX8_isInner_36 rfl rfl ?_
      refine rn_iload_n dX8_isInner_37 rfl rfl ?_
      refine rn_iadd dX8_isInner_38 ?_
      refine rn_iconst (v := nI 2) dX8_isInner_39 (by decide) ?_
      refine rn_irem dX8_isInner_40 (by decide) ?_
      refine rn_iconst (v := nI 1) dX8_isInner_41 (by decide) ?_
      refine rn_icmp_ne (tgt := 49) dX8_isInner_42 (by decide) (fun c_42 => ?_) (fun c_42 => ?_)
      · refine rn_iconst (v := nI 0) dX8_isInner_49 (by decide) ?_
        refine rn_ireturn dX8_isInner_50 rfl (by decide) ?_
        exact ⟨by rw [show pInner w h i j = false from decide_eq_false (fun hp => by first | (have b2 := of_decide_eq_true c_33; have b1 := of_decide_eq_true c_15; rw [e1, e2w] at b1; rw [e1, e2h] at b2; exact c_42 ((z_rem2 (by omega) (by omega)).mpr hp.2.2.2.2)) | (have b1 := of_decide_eq_false c_33; rw [e1, e2h] at b1; omega) | (have b1 := of_decide_eq_false c_15; rw [e1, e2w] at b1; omega))]; rfl, rfl, rfl⟩
      · refine rn_iconst (v := nI 1) dX8_isInner_45 (by decide) ?_
        refine rn_goto (tgt := 50) dX8_isInner_46 (by decide) ?_
        refine rn_ireturn dX8_isInner_50 rfl (by decide) ?_
        have b1 := of_decide_eq_true c_15
        have b2 := of_decide_eq_true c_33
        rw [e1, e2w] at b1
        rw [e1, e2h] at b2
        have hp := (z_rem2 (by omega) (by omega)).mp c_42
        exact ⟨by rw [show pInner w h i j = true from decide_eq_true (by omega)]; rfl, rfl, rfl⟩
set_option maxHeartbeats 1000000 in
set_option maxRecDepth 100000 in
theorem c_X8_squares {S : am_S} (hs : sk S) {I : am_I} {w h : Nat} (hw : I 45 0 = nI w) (hh : I 46 0 = nI h) (w1 : 1 ≤ w) (w8 : w ≤ 8) (h1 : 1 ≤ h) (h8 : h ≤ 8) : am_Mt 0 Y_X8_squares (0, 0) [.ref 44] S I (am_q (some (.int (nI (4 * w * h)))) S I) := by
  refine am_mt ⟨by decide +kernel, rfl⟩ (Nat.le_of_ble_eq_true rfl) rfl ?_
  refine rn_iconst (v := nI 4) dX8_squares_0 (by decide) ?_
  refine rn_aload_n dX8_squares_1 rfl rfl ?_
  refine rn_getR (r := 45) dX8_squares_2 fd_8_7 (sk_l hs 44 (by decide)) (sk_k44 hs) rfl (sk_r44_0 hs) ?_
  refine rn_iconst (v := nI 0) dX8_squares_5 (by decide) ?_
  refine rn_ialoadN dX8_squares_6 (sk_l hs 45 (by decide)) (sk_k45 hs) (by omega) (by omega) ?_
  refine rn_top (y := nI w) (hw) ?_
  refine rn_imul dX8_squares_7 ?_
  refine rn_top (pk_mul _ _) ?_
  refine rn_aload_n dX8_squares_8 rfl rfl ?_
  refine rn_getR (r := 46) dX8_squares_9 fd_8_13 (sk_l hs 44 (by decide)) (sk_k44 hs) rfl (sk_r44_1 hs) ?_
  refine rn_iconst (v := nI 0) dX8_squares_12 (by decide) ?_
  refine rn_ialoadN dX8_squares_13 (sk_l hs 46 (by decide)) (sk_k46 hs) (by omega) (by omega) ?_
  refine rn_top (y := nI h) (hh) ?_
  refine rn_imul dX8_squares_14 ?_
  refine rn_top (pk_mul _ _) ?_
  refine rn_ireturn dX8_squares_15 rfl (vp_nar_int _) ?_
  exact ⟨rfl, rfl, rfl⟩
set_option maxHeartbeats 1000000 in
set_option maxRecDepth 100000 in
theorem c_X8_isSquare {S : am_S} (hs : sk S) {I : am_I} {w h : Nat} (hw : I 45 0 = nI w) (hh : I 46 0 = nI h) (w1 : 1 ≤ w) (w8 : w ≤ 8) (h1 : 1 ≤ h) (h8 : h ≤ 8) (x : Int32) : am_Mt 1 Y_X8_isSquare (0, 0) [.ref 44, .int x] S I (am_q (some (.int (am_b (decide (0 ≤ x.toInt ∧ x.toInt < ((4 * w * h : Nat) : Int)))))) S I) := by
  have hb : 4 * w * h ≤ 256 := Nat.le_trans (Nat.mul_le_mul (Nat.mul_le_mul_left 4 w8) h8) (by decide)
  have hc : 4 ≤ 4 * w * h := Nat.le_trans (by decide : 4 ≤ 4 * 1 * 1) (Nat.mul_le_mul (Nat.mul_le_mul_left 4 w1) h1)
  refine am_mt ⟨by decide +kernel, rfl⟩ (Nat.le_of_ble_eq_true rfl) rfl ?_
  refine rn_iload_n dX8_isSquare_0 rfl rfl ?_
  refine rn_iconst (v := nI 0) dX8_isSquare_1 (by decide) ?_
  refine rn_aload_n dX8_isSquare_2 rfl rfl ?_
  refine rn_callVq (st := [.int (nI 0), .int x]) dX8_isSquare_3 cf_8_81 (c_X8_squares hs hw hh w1 w8 h1 h8) (by decide) (sk_l hs 44 (by decide)) (sk_k44 hs) rfl rfl (Nat.le_of_ble_eq_true rfl) ?_
  refine rn_iconst (v := nI 1) dX8_isSquare_6 (by decide) ?_
  refine rn_isub dX8_isSquare_7 ?_
  refine rn_top (pk_sub (by omega)) ?_
  refine rn_callSq (st := []) dX8_isSquare_8 cf_8_70 (c_X8_isIn S I _ _ _) (by decide) rfl rfl (Nat.le_of_ble_eq_true rfl) ?_
  refine rn_ireturn dX8_isSquare_11 rfl (am_b_n _) ?_
  exact ⟨by rw [show decide ((nI 0).toInt ≤ x.toInt ∧ x.toInt ≤ (nI (4 * w * h - 1)).toInt) = decide (0 ≤ x.toInt ∧ x.toInt < ((4 * w * h : Nat) : Int)) from by rw [z_nI (by decide), z_nI (by omega)]; exact decide_eq_decide.mpr (by omega)], rfl, rfl⟩
set_option maxHeartbeats 1000000 in
set_option maxRecDepth 100000 in
theorem c_X8_other {S : am_S} (hs : sk S) {I : am_I} {p : Nat} (hp : p < 5780) : am_Mt 0 Y_X8_other (0, 0) [.ref 44, .int (nI p)] S I (am_q (some (.int (if I 47 p = 0 then nI 1 else nI 0))) S I) := by
  refine am_mt ⟨by decide +kernel, rfl⟩ (Nat.le_of_ble_eq_true rfl) rfl ?_
  refine rn_aload_n dX8_other_0 rfl rfl ?_
  refine rn_getR (r := 47) dX8_other_1 fd_8_16 (sk_l hs 44 (by decide)) (sk_k44 hs) rfl (sk_r44_2 hs) ?_
  refine rn_iload_n dX8_other_4 rfl rfl ?_
  refine rn_baloadN dX8_other_5 (sk_l hs 47 (by decide)) (sk_k47 hs) (by decide) (by omega) (by omega) ?_
  refine rn_if_ne (tgt := 13) dX8_other_6 (by decide) (fun c_6 => ?_) (fun c_6 => ?_)
  · refine rn_iconst (v := nI 0) dX8_other_13 (by decide) ?_
    refine rn_ireturn dX8_other_14 rfl (vp_nar_int _) ?_
    exact ⟨by first | rw [if_pos c_6] | rw [if_neg c_6], rfl, rfl⟩
  · refine rn_iconst (v := nI 1) dX8_other_9 (by decide) ?_
    refine rn_goto (tgt := 14) dX8_other_10 (by decide) ?_
    refine rn_ireturn dX8_other_14 rfl (vp_nar_int _) ?_
    exact ⟨by first | rw [if_pos c_6] | rw [if_neg c_6], rfl, rfl⟩
set_option maxHeartbeats 1000000 in
set_option maxRecDepth 100000 in
theorem c_X8_see {S : am_S} (hs : sk S) {I : am_I} {n p : Nat} (hn : I 44 14 = nI n) (h2 : n ≤ 200) (hp : p < 2147483648) : am_Mt 0 Y_X8_see (0, 0) [.ref 44, .int (nI p)] S I (am_q (some (.int (if p < n then I 55 p else -1))) S I) := by
  refine am_mt ⟨by decide +kernel, rfl⟩ (Nat.le_of_ble_eq_true rfl) rfl ?_
  refine rn_iload_n dX8_see_0 rfl rfl ?_
  refine rn_aload_n dX8_see_1 rfl rfl ?_
  refine rn_getI dX8_see_2 fd_8_121 (sk_l hs 44 (by decide)) (sk_k44 hs) rfl ?_
  refine rn_top (y := nI n) (hn) ?_
  refine rn_icmp_geN (tgt := 17) dX8_see_5 (by decide) (by omega) (by omega) (fun c_5 => ?_) (fun c_5 => ?_)
  · refine rn_iconst (v := (-1)) dX8_see_17 (by decide) ?_
    refine rn_ireturn dX8_see_18 rfl (vp_nar_int _) ?_
    exact ⟨by rw [if_neg (by omega)], rfl, rfl⟩
  · refine rn_aload_n dX8_see_8 rfl rfl ?_
    refine rn_getR (r := 55) dX8_see_9 fd_8_42 (sk_l hs 44 (by decide)) (sk_k44 hs) rfl (sk_r44_13 hs) ?_
    refine rn_iload_n dX8_see_12 rfl rfl ?_
    refine rn_ialoadN dX8_see_13 (sk_l hs 55 (by decide)) (sk_k55 hs) (by omega) (by omega) ?_
    refine rn_goto (tgt := 18) dX8_see_14 (by decide) ?_
    refine rn_ireturn dX8_see_18 rfl (vp_nar_int _) ?_
    exact ⟨by rw [if_pos (by omega)], rfl, rfl⟩
set_option maxHeartbeats 1000000 in
set_option maxRecDepth 100000 in
theorem c_X8_isDigit (S : am_S) (I : am_I) (x : Int32) : am_Mt 1 Y_X8_isDigit (0, 0) [.int x] S I (am_q (some (.int (am_b (decide (48 ≤ x.toInt ∧ x.toInt ≤ 57))))) S I) := by
  refine am_mt ⟨by decide +kernel, rfl⟩ (Nat.le_of_ble_eq_true rfl) rfl ?_
  refine rn_iload_n dX8_isDigit_0 rfl rfl ?_
  refine rn_bipush (v := nI 48) dX8_isDigit_1 (by decide) ?_
  refine rn_bipush (v := nI 57) dX8_isDigit_3 (by decide) ?_
  refine rn_callSq (st := []) dX8_isDigit_5 cf_8_70 (c_X8_isIn S I _ _ _) (by decide) rfl rfl (Nat.le_of_ble_eq_true rfl) ?_
  refine rn_ireturn dX8_isDigit_8 rfl (am_b_n _) ?_
  exact ⟨by rw [z_nI (by decide), z_nI (by decide)]; rfl, rfl, rfl⟩
set_option maxHeartbeats 1000000 in
set_option maxRecDepth 100000 in
theorem c_X8_dxOf (S : am_S) (I : am_I) (x : Int32) : am_Mt 0 Y_X8_dxOf (0, 0) [.int x] S I (am_q (some (.int (if x = nI 97 ∨ x = nI 100 then nI 1 else -1))) S I) := by
  refine am_mt ⟨by decide +kernel, rfl⟩ (Nat.le_of_ble_eq_true rfl) rfl ?_
  refine rn_iload_n dX8_dxOf_0 rfl rfl ?_
  refine rn_bipush (v := nI 97) dX8_dxOf_1 (by decide) ?_
  refine rn_icmp_eq (tgt := 12) dX8_dxOf_3 (by decide) (fun c_3 => ?_) (fun c_3 => ?_)
  · refine rn_iconst (v := nI 1) dX8_dxOf_12 (by decide) ?_
    refine rn_goto (tgt := 17) dX8_dxOf_13 (by decide) ?_
    refine rn_ireturn dX8_dxOf_17 rfl (vp_nar_int _) ?_
    exact ⟨by rw [if_pos (by first | exact Or.inl ‹x = nI 97› | exact Or.inr ‹x = nI 100›)], rfl, rfl⟩
  · refine rn_iload_n dX8_dxOf_6 rfl rfl ?_
    refine rn_bipush (v := nI 100) dX8_dxOf_7 (by decide) ?_
    refine rn_icmp_ne (tgt := 16) dX8_dxOf_9 (by decide) (fun c_9 => ?_) (fun c_9 => ?_)
    · refine rn_iconst (v := (-1)) dX8_dxOf_16 (by decide) ?_
      refine rn_ireturn dX8_dxOf_17 rfl (vp_nar_int _) ?_
      exact ⟨by rw [if_neg (fun hh => hh.elim ‹¬ x = nI 97› ‹¬ x = nI 100›)], rfl, rfl⟩
    · refine rn_iconst (v := nI 1) dX8_dxOf_12 (by decide) ?_
      refine rn_goto (tgt := 17) dX8_dxOf_13 (by decide) ?_
      refine rn_ireturn dX8_dxOf_17 rfl (vp_nar_int _) ?_
      exact ⟨by rw [if_pos (by first | exact Or.inl ‹x = nI 97› | exact Or.inr ‹x = nI 100›)], rfl, rfl⟩
set_option maxHeartbeats 1000000 in
set_option maxRecDepth 100000 in
theorem c_X8_dyOf (S : am_S) (I : am_I) (x : Int32) : am_Mt 0 Y_X8_dyOf (0, 0) [.int x] S I (am_q (some (.int (if x = nI 97 ∨ x = nI 98 then nI 1 else -1))) S I) := by
  refine am_mt ⟨by decide +kernel, rfl⟩ (Nat.le_of_ble_eq_true rfl) rfl ?_
  refine rn_iload_n dX8_dyOf_0 rfl rfl ?_
  refine rn_bipush (v := nI 97) dX8_dyOf_1 (by decide) ?_
  refine rn_icmp_eq (tgt := 12) dX8_dyOf_3 (by decide) (fun c_3 => ?_) (fun c_3 => ?_)
  · refine rn_iconst (v := nI 1) dX8_dyOf_12 (by decide) ?_
    refine rn_goto (tgt := 17) dX8_dyOf_13 (by decide) ?_
    refine rn_ireturn dX8_dyOf_17 rfl (vp_nar_int _) ?_
    exact ⟨by rw [if_pos (by first | exact Or.inl ‹x = nI 97› | exact Or.inr ‹x = nI 98›)], rfl, rfl⟩
  · refine rn_iload_n dX8_dyOf_6 rfl rfl ?_
    refine rn_bipush (v := nI 98) dX8_dyOf_7 (by decide) ?_
    refine rn_icmp_ne (tgt := 16) dX8_dyOf_9 (by decide) (fun c_9 => ?_) (fun c_9 => ?_)
    · refine rn_iconst (v := (-1)) dX8_dyOf_16 (by decide) ?_
      refine rn_ireturn dX8_dyOf_17 rfl (vp_nar_int _) ?_
      exact ⟨by rw [if_neg (fun hh => hh.elim ‹¬ x = nI 97› ‹¬ x = nI 98›)], rfl, rfl⟩
    · refine rn_iconst (v := nI 1) dX8_dyOf_12 (by decide) ?_
      refine rn_goto (tgt := 17) dX8_dyOf_13 (by decide) ?_
      refine rn_ireturn dX8_dyOf_17 rfl (vp_nar_int _) ?_
      exact ⟨by rw [if_pos (by first | exact Or.inl ‹x = nI 97› | exact Or.inr ‹x = nI 98›)], rfl, rfl⟩
set_option maxHeartbeats 1000000 in
set_option maxRecDepth 100000 in
theorem c_X6_rightOf (S : am_S) (I : am_I) (x : Int32) : am_Mt 0 Y_X6_rightOf (0, 0) [.int x] S I (am_q (some (.int (if x = nI 97 ∨ x = nI 100 then nI 1 else -1))) S I) := by
  refine am_mt ⟨by decide +kernel, rfl⟩ (Nat.le_of_ble_eq_true rfl) rfl ?_
  refine rn_iload_n dX6_rightOf_0 rfl rfl ?_
  refine rn_bipush (v := nI 97) dX6_rightOf_1 (by decide) ?_
  refine rn_icmp_eq (tgt := 12) dX6_rightOf_3 (by decide) (fun c_3 => ?_) (fun c_3 => ?_)
  · refine rn_iconst (v := nI 1) dX6_rightOf_12 (by decide) ?_
    refine rn_goto (tgt := 17) dX6_rightOf_13 (by decide) ?_
    refine rn_ireturn dX6_rightOf_17 rfl (vp_nar_int _) ?_
    exact ⟨by rw [if_pos (by first | exact Or.inl ‹x = nI 97› | exact Or.inr ‹x = nI 100›)], rfl, rfl⟩
  · refine rn_iload_n dX6_rightOf_6 rfl rfl ?_
    refine rn_bipush (v := nI 100) dX6_rightOf_7 (by decide) ?_
    refine rn_icmp_ne (tgt := 16) dX6_rightOf_9 (by decide) (fun c_9 => ?_) (fun c_9 => ?_)
    · refine rn_iconst (v := (-1)) dX6_rightOf_16 (by decide) ?_
      refine rn_ireturn dX6_rightOf_17 rfl (vp_nar_int _) ?_
      exact ⟨by rw [if_neg (fun hh => hh.elim ‹¬ x = nI 97› ‹¬ x = nI 100›)], rfl, rfl⟩
    · refine rn_iconst (v := nI 1) dX6_rightOf_12 (by decide) ?_
      refine rn_goto (tgt := 17) dX6_rightOf_13 (by decide) ?_
      refine rn_ireturn dX6_rightOf_17 rfl (vp_nar_int _) ?_
      exact ⟨by rw [if_pos (by first | exact Or.inl ‹x = nI 97› | exact Or.inr ‹x = nI 100›)], rfl, rfl⟩
set_option maxHeartbeats 1000000 in
set_option maxRecDepth 100000 in
theorem c_X6_downOf (S : am_S) (I : am_I) (x : Int32) : am_Mt 0 Y_X6_downOf (0, 0) [.int x] S I (am_q (some (.int (if x = nI 97 ∨ x = nI 98 then nI 1 else -1))) S I) := by
  refine am_mt ⟨by decide +kernel, rfl⟩ (Nat.le_of_ble_eq_true rfl) rfl ?_
  refine rn_iload_n dX6_downOf_0 rfl rfl ?_
  refine rn_bipush (v := nI 97) dX6_downOf_1 (by decide) ?_
  refine rn_icmp_eq (tgt := 12) dX6_downOf_3 (by decide) (fun c_3 => ?_) (fun c_3 => ?_)
  · refine rn_iconst (v := nI 1) dX6_downOf_12 (by decide) ?_
    refine rn_goto (tgt := 17) dX6_downOf_13 (by decide) ?_
    refine rn_ireturn dX6_downOf_17 rfl (vp_nar_int _) ?_
    exact ⟨by rw [if_pos (by first | exact Or.inl ‹x = nI 97› | exact Or.inr ‹x = nI 98›)], rfl, rfl⟩
  · refine rn_iload_n dX6_downOf_6 rfl rfl ?_
    refine rn_bipush (v := nI 98) dX6_downOf_7 (by decide) ?_
    refine rn_icmp_ne (tgt := 16) dX6_downOf_9 (by decide) (fun c_9 => ?_) (fun c_9 => ?_)
    · refine rn_iconst (v := (-1)) dX6_downOf_16 (by decide) ?_
      refine rn_ireturn dX6_downOf_17 rfl (vp_nar_int _) ?_
      exact ⟨by rw [if_neg (fun hh => hh.elim ‹¬ x = nI 97› ‹¬ x = nI 98›)], rfl, rfl⟩
    · refine rn_iconst (v := nI 1) dX6_downOf_12 (by decide) ?_
      refine rn_goto (tgt := 17) dX6_downOf_13 (by decide) ?_
      refine rn_ireturn dX6_downOf_17 rfl (vp_nar_int _) ?_
      exact ⟨by rw [if_pos (by first | exact Or.inl ‹x = nI 97› | exact Or.inr ‹x = nI 98›)], rfl, rfl⟩
def md_four (I : am_I) (n : Nat) (v : Int32) : am_I := (am_up (am_up (am_up (am_up (am_up (am_up (am_up (am_up I 55 (n) ((v >>> (nI 24 &&& 31)) &&& nI 255)) 44 14 (nI (n + 1))) 55 (n + 1) ((v >>> (nI 16 &&& 31)) &&& nI 255)) 44 14 (nI (n + 2))) 55 (n + 2) ((v >>> (nI 8 &&& 31)) &&& nI 255)) 44 14 (nI (n + 3))) 55 (n + 3) ((v >>> (nI 0 &&& 31)) &&& nI 255)) 44 14 (nI (n + 4)))
set_option maxHeartbeats 1000000 in
set_option maxRecDepth 100000 in
theorem c_X8_four {S : am_S} (hs : sk S) {I : am_I} {n : Nat} (hn : I 44 14 = nI n) (h2 : n + 4 ≤ 200) (v : Int32) : am_Mt 0 Y_X8_four (0, 0) [.ref 44, .int v] S I (am_q none S (md_four I n v)) := by
  refine am_mt ⟨by decide +kernel, rfl⟩ (Nat.le_of_ble_eq_true rfl) rfl ?_
  refine rn_bipush (v := nI 24) dX8_four_0 (by decide) ?_
  refine rn_istore_n (ls' := [some (.ref 44), some (.int v), some (.int (nI 24))]) dX8_four_2 rfl (by decide) rfl rfl ?_
  refine rn_iload_n dX8_four_3 rfl rfl ?_
  refine rn_if_ltN (tgt := 39) dX8_four_4 (by omega) (by decide) ?_
  refine rn_aload_n dX8_four_7 rfl rfl ?_
  refine rn_getR (r := 55) dX8_four_8 fd_8_42 (sk_l hs 44 (by decide)) (sk_k44 hs) rfl (sk_r44_13 hs) ?_
  refine rn_aload_n dX8_four_11 rfl rfl ?_
  refine rn_getI dX8_four_12 fd_8_121 (sk_l hs 44 (by decide)) (sk_k44 hs) rfl ?_
  refine rn_top (y := nI n) (hn) ?_
  refine rn_iload_n dX8_four_15 rfl rfl ?_
  refine rn_iload_n dX8_four_16 rfl rfl ?_
  refine rn_ishr dX8_four_17 ?_
  refine rn_sipush (v := nI 255) dX8_four_18 (by decide) ?_
  refine rn_iand dX8_four_21 ?_
  refine rn_iastoreN dX8_four_22 (sk_l hs 55 (by decide)) (sk_k55 hs) (by omega) (by omega) ?_
  refine rn_aload_n dX8_four_23 rfl rfl ?_
  refine rn_dup dX8_four_24 rfl ?_
  refine rn_getI dX8_four_25 fd_8_121 (sk_l hs 44 (by decide)) (sk_k44 hs) rfl ?_
  refine rn_top (y := nI n) (by have h9 := hn; simp [am_up, va_up, h9]) ?_
  refine rn_iconst (v := nI 1) dX8_four_28 (by decide) ?_
  refine rn_iadd dX8_four_29 ?_
  refine rn_top (nI_add _ _) ?_
  refine rn_putI dX8_four_30 fd_8_121 (sk_l hs 44 (by decide)) (sk_k44 hs) rfl rfl (vp_nar_int _) rfl ?_
  refine rn_iinc (v := nI 16) (ls' := [some (.ref 44), some (.int v), some (.int (nI 16))]) dX8_four_33 rfl (by decide) (by decide) rfl rfl ?_
  refine rn_goto (tgt := 3) dX8_four_36 (by decide) ?_
  refine rn_iload_n dX8_four_3 rfl rfl ?_
  refine rn_if_ltN (tgt := 39) dX8_four_4 (by omega) (by decide) ?_
  refine rn_aload_n dX8_four_7 rfl rfl ?_
  refine rn_getR (r := 55) dX8_four_8 fd_8_42 (sk_l hs 44 (by decide)) (sk_k44 hs) rfl (sk_r44_13 hs) ?_
  refine rn_aload_n dX8_four_11 rfl rfl ?_
  refine rn_getI dX8_four_12 fd_8_121 (sk_l hs 44 (by decide)) (sk_k44 hs) rfl ?_
  refine rn_top (y := nI (n + 1)) (by simp [am_up, va_up]) ?_
  refine rn_iload_n dX8_four_15 rfl rfl ?_
  refine rn_iload_n dX8_four_16 rfl rfl ?_
  refine rn_ishr dX8_four_17 ?_
  refine rn_sipush (v := nI 255) dX8_four_18 (by decide) ?_
  refine rn_iand dX8_four_21 ?_
  refine rn_iastoreN dX8_four_22 (sk_l hs 55 (by decide)) (sk_k55 hs) (by omega) (by omega) ?_
  refine rn_aload_n dX8_four_23 rfl rfl ?_
  refine rn_dup dX8_four_24 rfl ?_
  refine rn_getI dX8_four_25 fd_8_121 (sk_l hs 44 (by decide)) (sk_k44 hs) rfl ?_
  refine rn_top (y := nI (n + 1)) (by simp [am_up, va_up]) ?_
  refine rn_iconst (v := nI 1) dX8_four_28 (by decide) ?_
  refine rn_iadd dX8_four_29 ?_
  refine rn_top (nI_add _ _) ?_
  refine rn_putI dX8_four_30 fd_8_121 (sk_l hs 44 (by decide)) (sk_k44 hs) rfl rfl (vp_nar_int _) rfl ?_
  refine rn_iinc (v := nI 8) (ls' := [some (.ref 44), some (.int v), some (.int (nI 8))]) dX8_four_33 rfl (by decide) (by decide) rfl rfl ?_
  refine rn_goto (tgt := 3) dX8_four_36 (by decide) ?_
  refine rn_iload_n dX8_four_3 rfl rfl ?_
  refine rn_if_ltN (tgt := 39) dX8_four_4 (by omega) (by decide) ?_
  refine rn_aload_n dX8_four_7 rfl rfl ?_
  refine rn_getR (r := 55) dX8_four_8 fd_8_42 (sk_l hs 44 (by decide)) (sk_k44 hs) rfl (sk_r44_13 hs) ?_
  refine rn_aload_n dX8_four_11 rfl rfl ?_
  refine rn_getI dX8_four_12 fd_8_121 (sk_l hs 44 (by decide)) (sk_k44 hs) rfl ?_
  refine rn_top (y := nI ((n + 1) + 1)) (by simp [am_up, va_up]) ?_
  refine rn_iload_n dX8_four_15 rfl rfl ?_
  refine rn_iload_n dX8_four_16 rfl rfl ?_
  refine rn_ishr dX8_four_17 ?_
  refine rn_sipush (v := nI 255) dX8_four_18 (by decide) ?_
  refine rn_iand dX8_four_21 ?_
  refine rn_iastoreN dX8_four_22 (sk_l hs 55 (by decide)) (sk_k55 hs) (by omega) (by omega) ?_
  refine rn_aload_n dX8_four_23 rfl rfl ?_
  refine rn_dup dX8_four_24 rfl ?_
  refine rn_getI dX8_four_25 fd_8_121 (sk_l hs 44 (by decide)) (sk_k44 hs) rfl ?_
  refine rn_top (y := nI ((n + 1) + 1)) (by simp [am_up, va_up]) ?_
  refine rn_iconst (v := nI 1) dX8_four_28 (by decide) ?_
  refine rn_iadd dX8_four_29 ?_
  refine rn_top (nI_add _ _) ?_
  refine rn_putI dX8_four_30 fd_8_121 (sk_l hs 44 (by decide)) (sk_k44 hs) rfl rfl (vp_nar_int _) rfl ?_
  refine rn_iinc (v := nI 0) (ls' := [some (.ref 44), some (.int v), some (.int (nI 0))]) dX8_four_33 rfl (by decide) (by decide) rfl rfl ?_
  refine rn_goto (tgt := 3) dX8_four_36 (by decide) ?_
  refine rn_iload_n dX8_four_3 rfl rfl ?_
  refine rn_if_ltN (tgt := 39) dX8_four_4 (by omega) (by decide) ?_
  refine rn_aload_n dX8_four_7 rfl rfl ?_
  refine rn_getR (r := 55) dX8_four_8 fd_8_42 (sk_l hs 44 (by decide)) (sk_k44 hs) rfl (sk_r44_13 hs) ?_
  refine rn_aload_n dX8_four_11 rfl rfl ?_
  refine rn_getI dX8_four_12 fd_8_121 (sk_l hs 44 (by decide)) (sk_k44 hs) rfl ?_
  refine rn_top (y := nI (((n + 1) + 1) + 1)) (by simp [am_up, va_up]) ?_
  refine rn_iload_n dX8_four_15 rfl rfl ?_
  refine rn_iload_n dX8_four_16 rfl rfl ?_
  refine rn_ishr dX8_four_17 ?_
  refine rn_sipush (v := nI 255) dX8_four_18 (by decide) ?_
  refine rn_iand dX8_four_21 ?_
  refine rn_iastoreN dX8_four_22 (sk_l hs 55 (by decide)) (sk_k55 hs) (by omega) (by omega) ?_
  refine rn_aload_n dX8_four_23 rfl rfl ?_
  refine rn_dup dX8_four_24 rfl ?_
  refine rn_getI dX8_four_25 fd_8_121 (sk_l hs 44 (by decide)) (sk_k44 hs) rfl ?_
  refine rn_top (y := nI (((n + 1) + 1) + 1)) (by simp [am_up, va_up]) ?_
  refine rn_iconst (v := nI 1) dX8_four_28 (by decide) ?_
  refine rn_iadd dX8_four_29 ?_
  refine rn_top (nI_add _ _) ?_
  refine rn_putI dX8_four_30 fd_8_121 (sk_l hs 44 (by decide)) (sk_k44 hs) rfl rfl (vp_nar_int _) rfl ?_
  refine rn_iinc (v := (-8)) (ls' := [some (.ref 44), some (.int v), some (.int (-8))]) dX8_four_33 rfl (by decide) (by decide) rfl rfl ?_
  refine rn_goto (tgt := 3) dX8_four_36 (by decide) ?_
  refine rn_iload_n dX8_four_3 rfl rfl ?_
  refine rn_if_lt (tgt := 39) dX8_four_4 (by decide) (fun c_4 => ?_) (fun c_4 => ?_)
  · refine rn_return dX8_four_39 rfl ?_
    exact ⟨rfl, rfl, rfl⟩
  · exact absurd c_4 (by decide)
def gr_sz (I : am_I) (g w h : Nat) : am_I := am_up (am_up I 45 g (nI w)) 46 g (nI h)
def gr_cpy (I : am_I) (f g w h : Nat) (k : Nat) : am_I := va_up (gr_sz I g w h) 47 (stP (289 * g) k (fun x => b8 (I 47 (289 * f + x))) (gr_sz I g w h 47))
def gr_pln (I : am_I) (g w h : Nat) (k : Nat) : am_I := va_up (gr_sz I g w h) 47 (stP (289 * g) k (fun _ => b8 (nI 0)) (gr_sz I g w h 47))
theorem gr_cpy_src (I : am_I) {f g w h k x : Nat} (hfg : f ≠ g) (hx : x < 289) : gr_cpy I f g w h k 47 (289 * f + x) = I 47 (289 * f + x) ∨ k ≤ 289 ∧ gr_cpy I f g w h k 47 (289 * f + x) = I 47 (289 * f + x) ∨ 289 < k := by
  by_cases hk : k ≤ 289
  · left
    unfold gr_cpy
    simp only [va_up, if_true, stP]
    rw [if_neg (by omega)]
    simp [gr_sz, am_up, va_up]
  · right; right; omega
set_option maxHeartbeats 1000000 in
set_option maxRecDepth 100000 in
theorem c_X8_copy {S : am_S} (hs : sk S) {I : am_I} {f g w h : Nat} (hf : f < 20) (hg : g < 20) (hfg : f ≠ g) (hw : I 45 f = nI w) (hh : I 46 f = nI h) : am_Mt 0 Y_X8_copy (0, 0) [.ref 44, .int (nI f), .int (nI g)] S I (am_q none S (gr_cpy I f g w h 289)) := by
  have L : ∀ k, k ≤ 289 → am_Rn 0 Y_X8_copy (0, 0) 26 [some (.ref 44), some (.int (nI f)), some (.int (nI g)), some (.int (nI k))] [] S (gr_cpy I f g w h k) (am_q none S (gr_cpy I f g w h 289)) := by
    refine am_loop 289 (fun k hk ih => ?_)
    refine rn_iload_n dX8_copy_26 rfl rfl ?_
    refine rn_sipush (v := nI 289) dX8_copy_27 (by decide) ?_
    refine rn_icmp_geN (tgt := 63) dX8_copy_30 (by decide) (by omega) (by omega) (fun c_30 => ?_) (fun c_30 => ?_)
    · refine rn_return dX8_copy_63 rfl ?_
      obtain rfl : k = 289 := by omega
      exact ⟨rfl, rfl, rfl⟩
    · refine rn_aload_n dX8_copy_33 rfl rfl ?_
      refine rn_getR (r := 47) dX8_copy_34 fd_8_16 (sk_l hs 44 (by decide)) (sk_k44 hs) rfl (sk_r44_2 hs) ?_
      refine rn_sipush (v := nI 289) dX8_copy_37 (by decide) ?_
      refine rn_iload_n dX8_copy_40 rfl rfl ?_
      refine rn_imul dX8_copy_41 ?_
      refine rn_top (pk_mul _ _) ?_
      refine rn_iload_n dX8_copy_42 rfl rfl ?_
      refine rn_iadd dX8_copy_43 ?_
      refine rn_top (nI_add _ _) ?_
      refine rn_aload_n dX8_copy_44 rfl rfl ?_
      refine rn_getR (r := 47) dX8_copy_45 fd_8_16 (sk_l hs 44 (by decide)) (sk_k44 hs) rfl (sk_r44_2 hs) ?_
      refine rn_sipush (v := nI 289) dX8_copy_48 (by decide) ?_
      refine rn_iload_n dX8_copy_51 rfl rfl ?_
      refine rn_imul dX8_copy_52 ?_
      refine rn_top (pk_mul _ _) ?_
      refine rn_iload_n dX8_copy_53 rfl rfl ?_
      refine rn_iadd dX8_copy_54 ?_
      refine rn_top (nI_add _ _) ?_
      refine rn_baloadN dX8_copy_55 (sk_l hs 47 (by decide)) (sk_k47 hs) (by decide) (by omega) (by omega) ?_
      refine rn_top (y := I 47 (289 * f + k)) (by rcases gr_cpy_src I (w := w) (h := h) (k := k) hfg c_30 with h | h | h; exact h; exact h.2; omega) ?_
      refine rn_bastoreN dX8_copy_56 (sk_l hs 47 (by decide)) (sk_k47 hs) (by omega) (by omega) ?_
      refine rn_iinc (v := nI (k + 1)) (ls' := [some (.ref 44), some (.int (nI f)), some (.int (nI g)), some (.int (nI (k + 1)))]) dX8_copy_57 rfl (nI_add _ 1) (by decide) rfl rfl ?_
      refine rn_goto (tgt := 26) dX8_copy_60 (by decide) ?_
      refine rn_I (stP_step (gr_sz I g w h) 47 (289 * g) k (fun x => b8 (I 47 (289 * f + x))) _) ?_
      exact ih c_30
  refine am_mt ⟨by decide +kernel, rfl⟩ (Nat.le_of_ble_eq_true rfl) rfl ?_
  refine rn_aload_n dX8_copy_0 rfl rfl ?_
  refine rn_getR (r := 45) dX8_copy_1 fd_8_7 (sk_l hs 44 (by decide)) (sk_k44 hs) rfl (sk_r44_0 hs) ?_
  refine rn_iload_n dX8_copy_4 rfl rfl ?_
  refine rn_aload_n dX8_copy_5 rfl rfl ?_
  refine rn_getR (r := 45) dX8_copy_6 fd_8_7 (sk_l hs 44 (by decide)) (sk_k44 hs) rfl (sk_r44_0 hs) ?_
  refine rn_iload_n dX8_copy_9 rfl rfl ?_
  refine rn_ialoadN dX8_copy_10 (sk_l hs 45 (by decide)) (sk_k45 hs) (by omega) (by omega) ?_
  refine rn_top (y := nI w) (hw) ?_
  refine rn_iastoreN dX8_copy_11 (sk_l hs 45 (by decide)) (sk_k45 hs) (by omega) (by omega) ?_
  refine rn_aload_n dX8_copy_12 rfl rfl ?_
  refine rn_getR (r := 46) dX8_copy_13 fd_8_13 (sk_l hs 44 (by decide)) (sk_k44 hs) rfl (sk_r44_1 hs) ?_
  refine rn_iload_n dX8_copy_16 rfl rfl ?_
  refine rn_aload_n dX8_copy_17 rfl rfl ?_
  refine rn_getR (r := 46) dX8_copy_18 fd_8_13 (sk_l hs 44 (by decide)) (sk_k44 hs) rfl (sk_r44_1 hs) ?_
  refine rn_iload_n dX8_copy_21 rfl rfl ?_
  refine rn_ialoadN dX8_copy_22 (sk_l hs 46 (by decide)) (sk_k46 hs) (by omega) (by omega) ?_
  refine rn_top (y := nI h) (by rw [am_up_a _ _ (by decide)]; exact hh) ?_
  refine rn_iastoreN dX8_copy_23 (sk_l hs 46 (by decide)) (sk_k46 hs) (by omega) (by omega) ?_
  refine rn_iconst (v := nI 0) dX8_copy_24 (by decide) ?_
  refine rn_istore_n (ls' := [some (.ref 44), some (.int (nI f)), some (.int (nI g)), some (.int (nI 0))]) dX8_copy_25 rfl (by decide) rfl rfl ?_
  refine rn_I (stP_0 (gr_sz I g w h) 47 (289 * g) (fun x => b8 (I 47 (289 * f + x)))) ?_
  exact L 0 (by omega)
set_option maxHeartbeats 1000000 in
set_option maxRecDepth 100000 in
theorem c_X8_plain {S : am_S} (hs : sk S) {I : am_I} {g w h : Nat} (hg : g < 20) : am_Mt 0 Y_X8_plain (0, 0) [.ref 44, .int (nI g), .int (nI w), .int (nI h)] S I (am_q none S (gr_pln I g w h 289)) := by
  have L : ∀ k, k ≤ 289 → am_Rn 0 Y_X8_plain (0, 0) 17 [some (.ref 44), some (.int (nI g)), some (.int (nI w)), some (.int (nI h)), some (.int (nI k))] [] S (gr_pln I g w h k) (am_q none S (gr_pln I g w h 289)) := by
    refine am_loop 289 (fun k hk ih => ?_)
    refine rn_iload dX8_plain_17 rfl ?_
    refine rn_sipush (v := nI 289) dX8_plain_19 (by decide) ?_
    refine rn_icmp_geN (tgt := 45) dX8_plain_22 (by decide) (by omega) (by omega) (fun c_22 => ?_) (fun c_22 => ?_)
    · refine rn_return dX8_plain_45 rfl ?_
      obtain rfl : k = 289 := by omega
      exact ⟨rfl, rfl, rfl⟩
    · refine rn_aload_n dX8_plain_25 rfl rfl ?_
      refine rn_getR (r := 47) dX8_plain_26 fd_8_16 (sk_l hs 44 (by decide)) (sk_k44 hs) rfl (sk_r44_2 hs) ?_
      refine rn_sipush (v := nI 289) dX8_plain_29 (by decide) ?_
      refine rn_iload_n dX8_plain_32 rfl rfl ?_
      refine rn_imul dX8_plain_33 ?_
      refine rn_top (pk_mul _ _) ?_
      refine rn_iload dX8_plain_34 rfl ?_
      refine rn_iadd dX8_plain_36 ?_
      refine rn_top (nI_add _ _) ?_
      refine rn_iconst (v := nI 0) dX8_plain_37 (by decide) ?_
      refine rn_bastoreN dX8_plain_38 (sk_l hs 47 (by decide)) (sk_k47 hs) (by omega) (by omega) ?_
      refine rn_iinc (v := nI (k + 1)) (ls' := [some (.ref 44), some (.int (nI g)), some (.int (nI w)), some (.int (nI h)), some (.int (nI (k + 1)))]) dX8_plain_39 rfl (nI_add _ 1) (by decide) rfl rfl ?_
      refine rn_goto (tgt := 17) dX8_plain_42 (by decide) ?_
      refine rn_I (stP_step (gr_sz I g w h) 47 (289 * g) k (fun _ => b8 (nI 0)) _) ?_
      exact ih c_22
  refine am_mt ⟨by decide +kernel, rfl⟩ (Nat.le_of_ble_eq_true rfl) rfl ?_
  refine rn_aload_n dX8_plain_0 rfl rfl ?_
  refine rn_getR (r := 45) dX8_plain_1 fd_8_7 (sk_l hs 44 (by decide)) (sk_k44 hs) rfl (sk_r44_0 hs) ?_
  refine rn_iload_n dX8_plain_4 rfl rfl ?_
  refine rn_iload_n dX8_plain_5 rfl rfl ?_
  refine rn_iastoreN dX8_plain_6 (sk_l hs 45 (by decide)) (sk_k45 hs) (by omega) (by omega) ?_
  refine rn_aload_n dX8_plain_7 rfl rfl ?_
  refine rn_getR (r := 46) dX8_plain_8 fd_8_13 (sk_l hs 44 (by decide)) (sk_k44 hs) rfl (sk_r44_1 hs) ?_
  refine rn_iload_n dX8_plain_11 rfl rfl ?_
  refine rn_iload_n dX8_plain_12 rfl rfl ?_
  refine rn_iastoreN dX8_plain_13 (sk_l hs 46 (by decide)) (sk_k46 hs) (by omega) (by omega) ?_
  refine rn_iconst (v := nI 0) dX8_plain_14 (by decide) ?_
  refine rn_istore (ls' := [some (.ref 44), some (.int (nI g)), some (.int (nI w)), some (.int (nI h)), some (.int (nI 0))]) dX8_plain_15 (by decide) rfl rfl ?_
  refine rn_I (stP_0 (gr_sz I g w h) 47 (289 * g) (fun _ => b8 (nI 0))) ?_
  exact L 0 (by omega)
set_option maxHeartbeats 1000000 in
set_option maxRecDepth 100000 in
theorem c_X8_isSame {S : am_S} (hs : sk S) {I : am_I} {f g w h w0 h0 : Nat} (hf : f < 20) (hg : g < 20) (hw : I 45 f = nI w) (hh : I 46 f = nI h) (hw0 : I 45 g = nI w0) (hh0 : I 46 g = nI h0) (w8 : w ≤ 8) (h8 : h ≤ 8) (w08 : w0 ≤ 8) (h08 : h0 ≤ 8) : am_Mt 0 Y_X8_isSame (0, 0) [.ref 44, .int (nI f), .int (nI g)] S I (am_q (some (.int (am_b (pb (w = w0 ∧ h = h0 ∧ ∀ k, k < 289 → I 47 (289 * f + k) = I 47 (289 * g + k)))))) S I) := by
  have L : w = w0 → h = h0 → ∀ k, k ≤ 289 → (∀ p, p < k → I 47 (289 * f + p) = I 47 (289 * g + p)) → am_Rn 0 Y_X8_isSame (0, 0) 34 [some (.ref 44), some (.int (nI f)), some (.int (nI g)), some (.int (nI k))] [] S I (am_q (some (.int (am_b (pb (w = w0 ∧ h = h0 ∧ ∀ k, k < 289 → I 47 (289 * f + k) = I 47 (289 * g + k)))))) S I) := by
    intro ew eh
    refine am_loop 289 (fun k hk8 ih hk => ?_)
    refine rn_iload_n dX8_isSame_34 rfl rfl ?_
    refine rn_sipush (v := nI 289) dX8_isSame_35 (by decide) ?_
    refine rn_icmp_geN (tgt := 76) dX8_isSame_38 (by decide) (by omega) (by omega) (fun c_38 => ?_) (fun c_38 => ?_)
    · refine rn_iconst (v := nI 1) dX8_isSame_76 (by decide) ?_
      refine rn_ireturn dX8_isSame_77 rfl (by decide) ?_
      exact ⟨by rw [am_b_t (pb_t ⟨ew, eh, fun p hp => hk p (by omega)⟩)]; rfl, rfl, rfl⟩
    · refine rn_aload_n dX8_isSame_41 rfl rfl ?_
      refine rn_getR (r := 47) dX8_isSame_42 fd_8_16 (sk_l hs 44 (by decide)) (sk_k44 hs) rfl (sk_r44_2 hs) ?_
      refine rn_sipush (v := nI 289) dX8_isSame_45 (by decide) ?_
      refine rn_iload_n dX8_isSame_48 rfl rfl ?_
      refine rn_imul dX8_isSame_49 ?_
      refine rn_top (pk_mul _ _) ?_
      refine rn_iload_n dX8_isSame_50 rfl rfl ?_
      refine rn_iadd dX8_isSame_51 ?_
      refine rn_top (nI_add _ _) ?_
      refine rn_baloadN dX8_isSame_52 (sk_l hs 47 (by decide)) (sk_k47 hs) (by decide) (by omega) (by omega) ?_
      refine rn_aload_n dX8_isSame_53 rfl rfl ?_
      refine rn_getR (r := 47) dX8_isSame_54 fd_8_16 (sk_l hs 44 (by decide)) (sk_k44 hs) rfl (sk_r44_2 hs) ?_
      refine rn_sipush (v := nI 289) dX8_isSame_57 (by decide) ?_
      refine rn_iload_n dX8_isSame_60 rfl rfl ?_
      refine rn_imul dX8_isSame_61 ?_
      refine rn_top (pk_mul _ _) ?_
      refine rn_iload_n dX8_isSame_62 rfl rfl ?_
      refine rn_iadd dX8_isSame_63 ?_
      refine rn_top (nI_add _ _) ?_
      refine rn_baloadN dX8_isSame_64 (sk_l hs 47 (by decide)) (sk_k47 hs) (by decide) (by omega) (by omega) ?_
      refine rn_icmp_eq (tgt := 70) dX8_isSame_65 (by decide) (fun c_65 => ?_) (fun c_65 => ?_)
      · refine rn_iinc (v := nI (k + 1)) (ls' := [some (.ref 44), some (.int (nI f)), some (.int (nI g)), some (.int (nI (k + 1)))]) dX8_isSame_70 rfl (nI_add _ 1) (by decide) rfl rfl ?_
        refine rn_goto (tgt := 34) dX8_isSame_73 (by decide) ?_
        exact ih c_38 (lt_s hk c_65)
      · refine rn_iconst (v := nI 0) dX8_isSame_68 (by decide) ?_
        refine rn_ireturn dX8_isSame_69 rfl (by decide) ?_
        exact ⟨by rw [am_b_f (pb_f (fun hh9 => by first | exact (‹w ≠ w0› hh9.1) | exact (‹h ≠ h0› hh9.2.1) | exact (‹¬ I 47 (289 * f + k) = I 47 (289 * g + k)› (hh9.2.2 k (by omega)))))]; rfl, rfl, rfl⟩
  refine am_mt ⟨by decide +kernel, rfl⟩ (Nat.le_of_ble_eq_true rfl) rfl ?_
  refine rn_aload_n dX8_isSame_0 rfl rfl ?_
  refine rn_getR (r := 45) dX8_isSame_1 fd_8_7 (sk_l hs 44 (by decide)) (sk_k44 hs) rfl (sk_r44_0 hs) ?_
  refine rn_iload_n dX8_isSame_4 rfl rfl ?_
  refine rn_ialoadN dX8_isSame_5 (sk_l hs 45 (by decide)) (sk_k45 hs) (by omega) (by omega) ?_
  refine rn_top (y := nI w) (hw) ?_
  refine rn_aload_n dX8_isSame_6 rfl rfl ?_
  refine rn_getR (r := 45) dX8_isSame_7 fd_8_7 (sk_l hs 44 (by decide)) (sk_k44 hs) rfl (sk_r44_0 hs) ?_
  refine rn_iload_n dX8_isSame_10 rfl rfl ?_
  refine rn_ialoadN dX8_isSame_11 (sk_l hs 45 (by decide)) (sk_k45 hs) (by omega) (by omega) ?_
  refine rn_top (y := nI w0) (hw0) ?_
  refine rn_icmp_neN (tgt := 30) dX8_isSame_12 (by decide) (by omega) (by omega) (fun c_12 => ?_) (fun c_12 => ?_)
  · refine rn_iconst (v := nI 0) dX8_isSame_30 (by decide) ?_
    refine rn_ireturn dX8_isSame_31 rfl (by decide) ?_
    exact ⟨by rw [am_b_f (pb_f (fun hh9 => by first | exact (‹w ≠ w0› hh9.1) | exact (‹h ≠ h0› hh9.2.1) | exact (‹¬ I 47 (289 * f + k) = I 47 (289 * g + k)› (hh9.2.2 k (by omega)))))]; rfl, rfl, rfl⟩
  · refine rn_aload_n dX8_isSame_15 rfl rfl ?_
    refine rn_getR (r := 46) dX8_isSame_16 fd_8_13 (sk_l hs 44 (by decide)) (sk_k44 hs) rfl (sk_r44_1 hs) ?_
    refine rn_iload_n dX8_isSame_19 rfl rfl ?_
    refine rn_ialoadN dX8_isSame_20 (sk_l hs 46 (by decide)) (sk_k46 hs) (by omega) (by omega) ?_
    refine rn_top (y := nI h) (hh) ?_
    refine rn_aload_n dX8_isSame_21 rfl rfl ?_
    refine rn_getR (r := 46) dX8_isSame_22 fd_8_13 (sk_l hs 44 (by decide)) (sk_k44 hs) rfl (sk_r44_1 hs) ?_
    refine rn_iload_n dX8_isSame_25 rfl rfl ?_
    refine rn_ialoadN dX8_isSame_26 (sk_l hs 46 (by decide)) (sk_k46 hs) (by omega) (by omega) ?_
    refine rn_top (y := nI h0) (hh0) ?_
    refine rn_icmp_eqN (tgt := 32) dX8_isSame_27 (by decide) (by omega) (by omega) (fun c_27 => ?_) (fun c_27 => ?_)
    · refine rn_iconst (v := nI 0) dX8_isSame_32 (by decide) ?_
      refine rn_istore_n (ls' := [some (.ref 44), some (.int (nI f)), some (.int (nI g)), some (.int (nI 0))]) dX8_isSame_33 rfl (by decide) rfl rfl ?_
      exact L ‹w = w0› ‹h = h0› 0 (by omega) (fun p hp => absurd hp (by omega))
    · refine rn_iconst (v := nI 0) dX8_isSame_30 (by decide) ?_
      refine rn_ireturn dX8_isSame_31 rfl (by decide) ?_
      exact ⟨by rw [am_b_f (pb_f (fun hh9 => by first | exact (‹w ≠ w0› hh9.1) | exact (‹h ≠ h0› hh9.2.1) | exact (‹¬ I 47 (289 * f + k) = I 47 (289 * g + k)› (hh9.2.2 k (by omega)))))]; rfl, rfl, rfl⟩
