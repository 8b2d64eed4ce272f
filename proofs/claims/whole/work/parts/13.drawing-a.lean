set_option maxHeartbeats 1000000 in
set_option maxRecDepth 100000 in
theorem c_X7_isDots (S : am_S) (I : am_I) (x : Int32) : am_Mt 0 Y_X7_isDots (0, 0) [.int x] S I (am_q (some (.int (am_b (decide (1 ≤ x.toInt ∧ x.toInt ≤ 8))))) S I) := by
  have e1 := z_nI (n := 1) (by decide)
  have e8 := z_nI (n := 8) (by decide)
  refine am_mt ⟨by decide +kernel, rfl⟩ (Nat.le_of_ble_eq_true rfl) rfl ?_
  refine rn_iload_n dX7_isDots_0 rfl rfl ?_
  refine rn_iconst (v := nI 1) dX7_isDots_1 (by decide) ?_
  refine rn_icmp_lt (tgt := 15) dX7_isDots_2 (by decide) (fun c_2 => ?_) (fun c_2 => ?_)
  · refine rn_iconst (v := nI 0) dX7_isDots_15 (by decide) ?_
    refine rn_ireturn dX7_isDots_16 rfl (by decide) ?_
    exact ⟨by rw [am_b_f (decide_eq_false (by simp only [z_le, z_lt, e1, e8] at *; omega))]; rfl, rfl, rfl⟩
  · refine rn_iload_n dX7_isDots_5 rfl rfl ?_
    refine rn_bipush (v := nI 8) dX7_isDots_6 (by decide) ?_
    refine rn_icmp_gt (tgt := 15) dX7_isDots_8 (by decide) (fun c_8 => ?_) (fun c_8 => ?_)
    · refine rn_iconst (v := nI 0) dX7_isDots_15 (by decide) ?_
      refine rn_ireturn dX7_isDots_16 rfl (by decide) ?_
      exact ⟨by rw [am_b_f (decide_eq_false (by simp only [z_le, z_lt, e1, e8] at *; omega))]; rfl, rfl, rfl⟩
    · refine rn_iconst (v := nI 1) dX7_isDots_11 (by decide) ?_
      refine rn_goto (tgt := 16) dX7_isDots_12 (by decide) ?_
      refine rn_ireturn dX7_isDots_16 rfl (by decide) ?_
      exact ⟨by rw [am_b_t (decide_eq_true (by simp only [z_le, z_lt, e1, e8] at *; omega))]; rfl, rfl, rfl⟩
set_option maxHeartbeats 1000000 in
set_option maxRecDepth 100000 in
theorem c_X7_placeOf (S : am_S) (I : am_I) {i j : Nat} (hi : i < 2147483648) : am_Mt 0 Y_X7_placeOf (0, 0) [.int (nI i), .int (nI j)] S I (am_q (some (.int (nI (8 * j + i / 2)))) S I) := by
  refine am_mt ⟨by decide +kernel, rfl⟩ (Nat.le_of_ble_eq_true rfl) rfl ?_
  refine rn_bipush (v := nI 8) dX7_placeOf_0 (by decide) ?_
  refine rn_iload_n dX7_placeOf_2 rfl rfl ?_
  refine rn_imul dX7_placeOf_3 ?_
  refine rn_top (pk_mul _ _) ?_
  refine rn_iload_n dX7_placeOf_4 rfl rfl ?_
  refine rn_iconst (v := nI 2) dX7_placeOf_5 (by decide) ?_
  refine rn_idiv dX7_placeOf_6 (by decide) ?_
  refine rn_top (pk_div (by omega) (by omega) (by omega)) ?_
  refine rn_iadd dX7_placeOf_7 ?_
  refine rn_top (nI_add _ _) ?_
  refine rn_ireturn dX7_placeOf_8 rfl (vp_nar_int _) ?_
  exact ⟨rfl, rfl, rfl⟩
set_option maxHeartbeats 1000000 in
set_option maxRecDepth 100000 in
theorem c_J7_fill (S : am_S) (I : am_I) {r n : Nat} (v : Int32) (hr : r < S.1) (hk : S.2.1 r = .inl (0, n)) (hn : n < 2147483648) : am_Mt 0 Y_J7_fill_53178 (0, 0) [.ref r, .int v] S I (am_q none S (va_up I r (am_fl n v (I r)))) := by
  have L : ∀ k, k ≤ n → am_Rn 0 Y_J7_fill_53178 (0, 0) 5 [some (.ref r), some (.int v), some (.int (nI k)), some (.int (nI n))] [] S (va_up I r (am_fl k v (I r))) (am_q none S (va_up I r (am_fl n v (I r)))) := by
    refine am_loop n (fun k hkn ih => ?_)
    refine rn_iload_n dJ7_fill_53178_5 rfl rfl ?_
    refine rn_iload_n dJ7_fill_53178_6 rfl rfl ?_
    refine rn_icmp_geN (tgt := 20) dJ7_fill_53178_7 (by decide) (by omega) (by omega) (fun c_7 => ?_) (fun c_7 => ?_)
    · refine rn_return dJ7_fill_53178_20 rfl ?_
      obtain rfl : k = n := by omega
      exact ⟨rfl, rfl, rfl⟩
    · refine rn_aload_n dJ7_fill_53178_10 rfl rfl ?_
      refine rn_iload_n dJ7_fill_53178_11 rfl rfl ?_
      refine rn_iload_n dJ7_fill_53178_12 rfl rfl ?_
      refine rn_iastoreN dJ7_fill_53178_13 hr hk (by omega) c_7 ?_
      refine rn_iinc (v := nI (k + 1)) (ls' := [some (.ref r), some (.int v), some (.int (nI (k + 1))), some (.int (nI n))]) dJ7_fill_53178_14 rfl (nI_add _ 1) (by decide) rfl rfl ?_
      refine rn_goto (tgt := 5) dJ7_fill_53178_17 (by decide) ?_
      refine rn_I (am_fl_step I r k n v) ?_
      exact ih c_7
  refine am_mt ⟨by decide +kernel, rfl⟩ (Nat.le_of_ble_eq_true rfl) rfl ?_
  refine rn_iconst (v := nI 0) dJ7_fill_53178_0 (by decide) ?_
  refine rn_istore_n (ls' := [some (.ref r), some (.int v), some (.int (nI 0)), none]) dJ7_fill_53178_1 rfl (by decide) rfl rfl ?_
  refine rn_aload_n dJ7_fill_53178_2 rfl rfl ?_
  refine rn_alen dJ7_fill_53178_3 hr hk (by decide) ?_
  refine rn_istore_n (ls' := [some (.ref r), some (.int v), some (.int (nI 0)), some (.int (nI n))]) dJ7_fill_53178_4 rfl (by decide) rfl rfl ?_
  refine rn_I (am_fl_0 I r v) ?_
  exact L 0 (Nat.zero_le _)
set_option maxHeartbeats 1000000 in
set_option maxRecDepth 100000 in
theorem c_X0_isInner {S : am_S} {I : am_I} {a q w h : Nat} (hd : am_dr S a q) (hw : I a 0 = nI w) (hh : I a 1 = nI h) (w8 : w ≤ 8) (h8 : h ≤ 8) (i j : Int32) : am_Mt 0 Y_X0_isInner (0, 0) [.ref a, .int i, .int j] S I (am_q (some (.int (am_b (pInner w h i j)))) S I) := by
  have e0 := z_nI (n := 0) (by decide)
  have e2w := z_nI (n := 2 * w) (by omega)
  have e2h := z_nI (n := 2 * h) (by omega)
  refine am_mt ⟨by decide +kernel, rfl⟩ (Nat.le_of_ble_eq_true rfl) rfl ?_
  refine rn_iload_n dX0_isInner_0 rfl rfl ?_
  refine rn_if_le (tgt := 41) dX0_isInner_1 (by decide) (fun c_1 => ?_) (fun c_1 => ?_)
  · refine rn_iconst (v := nI 0) dX0_isInner_41 (by decide) ?_
    refine rn_ireturn dX0_isInner_42 rfl (by decide) ?_
    exact ⟨by rw [show pInner w h i j = false from decide_eq_false (by first | (have hp := z_par0 ‹¬ (i + j) &&& nI 1 = nI 1›; omega) | (simp only [z_le, z_lt, z_0, e2w, e2h] at *; omega))]; rfl, rfl, rfl⟩
  · refine rn_iload_n dX0_isInner_4 rfl rfl ?_
    refine rn_iconst (v := nI 2) dX0_isInner_5 (by decide) ?_
    refine rn_aload_n dX0_isInner_6 rfl rfl ?_
    refine rn_getI dX0_isInner_7 fd_0_9 hd.1 hd.2.1 rfl ?_
    refine rn_top (y := nI w) (hw) ?_
    refine rn_imul dX0_isInner_10 ?_
    refine rn_top (pk_mul _ _) ?_
    refine rn_icmp_ge (tgt := 41) dX0_isInner_11 (by decide) (fun c_11 => ?_) (fun c_11 => ?_)
    · refine rn_iconst (v := nI 0) dX0_isInner_41 (by decide) ?_
      refine rn_ireturn dX0_isInner_42 rfl (by decide) ?_
      exact ⟨by rw [show pInner w h i j = false from decide_eq_false (by first | (have hp := z_par0 ‹¬ (i + j) &&& nI 1 = nI 1›; omega) | (simp only [z_le, z_lt, z_0, e2w, e2h] at *; omega))]; rfl, rfl, rfl⟩
    · refine rn_iload_n dX0_isInner_14 rfl rfl ?_
      refine rn_if_le (tgt := 41) dX0_isInner_15 (by decide) (fun c_15 => ?_) (fun c_15 => ?_)
      · refine rn_iconst (v := nI 0) dX0_isInner_41 (by decide) ?_
        refine rn_ireturn dX0_isInner_42 rfl (by decide) ?_
        exact ⟨by rw [show pInner w h i j = false from decide_eq_false (by first | (have hp := z_par0 ‹¬ (i + j) &&& nI 1 = nI 1›; omega) | (simp only [z_le, z_lt, z_0, e2w, e2h] at *; omega))]; rfl, rfl, rfl⟩
      · refine rn_iload_n dX0_isInner_18 rfl rfl ?_
        refine rn_iconst (v := nI 2) dX0_isInner_19 (by decide) ?_
        refine rn_aload_n dX0_isInner_20 rfl rfl ?_
        refine rn_getI dX0_isInner_21 fd_0_15 hd.1 hd.2.1 rfl ?_
        refine rn_top (y := nI h) (hh) ?_
        refine rn_imul dX0_isInner_24 ?_
        refine rn_top (pk_mul _ _) ?_
        refine rn_icmp_ge (tgt := 41) dX0_isInner_25 (by decide) (fun c_25 => ?_) (fun c_25 => ?_)
        · refine rn_iconst (v := nI 0) dX0_isInner_41 (by decide) ?_
          refine rn_ireturn dX0_isInner_42 rfl (by decide) ?_
          exact ⟨by rw [show pInner w h i j = false from decide_eq_false (by first | (have hp := z_par0 ‹¬ (i + j) &&& nI 1 = nI 1›; omega) | (simp only [z_le, z_lt, z_0, e2w, e2h] at *; omega))]; rfl, rfl, rfl⟩
        · refine rn_iload_n dX0_isInner_28 rfl rfl ?_
          refine rn_iload_n dX0_isInner_29 rfl rfl ?_
          refine rn_iadd dX0_isInner_30 ?_
          refine rn_iconst (v := nI 1) dX0_isInner_31 (by decide) ?_
          refine rn_iand dX0_isInner_32 ?_
          refine rn_iconst (v := nI 1) dX0_isInner_33 (by decide) ?_
          refine rn_icmp_ne (tgt := 41) dX0_isInner_34 (by decide) (fun c_34 => ?_) (fun c_34 => ?_)
          · refine rn_iconst (v := nI 0) dX0_isInner_41 (by decide) ?_
            refine rn_ireturn dX0_isInner_42 rfl (by decide) ?_
            exact ⟨by rw [show pInner w h i j = false from decide_eq_false (by first | (have hp := z_par0 ‹¬ (i + j) &&& nI 1 = nI 1›; omega) | (simp only [z_le, z_lt, z_0, e2w, e2h] at *; omega))]; rfl, rfl, rfl⟩
          · refine rn_iconst (v := nI 1) dX0_isInner_37 (by decide) ?_
            refine rn_goto (tgt := 42) dX0_isInner_38 (by decide) ?_
            refine rn_ireturn dX0_isInner_42 rfl (by decide) ?_
            have hp := z_par1 ‹(i + j) &&& nI 1 = nI 1›
            exact ⟨by rw [show pInner w h i j = true from decide_eq_true (by simp only [z_le, z_lt, z_0, e2w, e2h] at *; omega)]; rfl, rfl, rfl⟩
set_option maxHeartbeats 1000000 in
set_option maxRecDepth 100000 in
theorem c_X0_isPoint {S : am_S} {I : am_I} {a q w h : Nat} (hd : am_dr S a q) (hw : I a 0 = nI w) (hh : I a 1 = nI h) (w8 : w ≤ 8) (h8 : h ≤ 8) (i j : Int32) : am_Mt 0 Y_X0_isPoint (0, 0) [.ref a, .int i, .int j] S I (am_q (some (.int (am_b (pPoint w h i j)))) S I) := by
  have e0 := z_nI (n := 0) (by decide)
  have e2w := z_nI (n := 2 * w) (by omega)
  have e2h := z_nI (n := 2 * h) (by omega)
  refine am_mt ⟨by decide +kernel, rfl⟩ (Nat.le_of_ble_eq_true rfl) rfl ?_
  refine rn_iload_n dX0_isPoint_0 rfl rfl ?_
  refine rn_if_lt (tgt := 41) dX0_isPoint_1 (by decide) (fun c_1 => ?_) (fun c_1 => ?_)
  · refine rn_iconst (v := nI 0) dX0_isPoint_41 (by decide) ?_
    refine rn_ireturn dX0_isPoint_42 rfl (by decide) ?_
    exact ⟨by rw [show pPoint w h i j = false from decide_eq_false (by first | (have hp := z_par0 ‹¬ (i + j) &&& nI 1 = nI 1›; omega) | (simp only [z_le, z_lt, z_0, e2w, e2h] at *; omega))]; rfl, rfl, rfl⟩
  · refine rn_iload_n dX0_isPoint_4 rfl rfl ?_
    refine rn_iconst (v := nI 2) dX0_isPoint_5 (by decide) ?_
    refine rn_aload_n dX0_isPoint_6 rfl rfl ?_
    refine rn_getI dX0_isPoint_7 fd_0_9 hd.1 hd.2.1 rfl ?_
    refine rn_top (y := nI w) (hw) ?_
    refine rn_imul dX0_isPoint_10 ?_
    refine rn_top (pk_mul _ _) ?_
    refine rn_icmp_gt (tgt := 41) dX0_isPoint_11 (by decide) (fun c_11 => ?_) (fun c_11 => ?_)
    · refine rn_iconst (v := nI 0) dX0_isPoint_41 (by decide) ?_
      refine rn_ireturn dX0_isPoint_42 rfl (by decide) ?_
      exact ⟨by rw [show pPoint w h i j = false from decide_eq_false (by first | (have hp := z_par0 ‹¬ (i + j) &&& nI 1 = nI 1›; omega) | (simp only [z_le, z_lt, z_0, e2w, e2h] at *; omega))]; rfl, rfl, rfl⟩
    · refine rn_iload_n dX0_isPoint_14 rfl rfl ?_
      refine rn_if_lt (tgt := 41) dX0_isPoint_15 (by decide) (fun c_15 => ?_) (fun c_15 => ?_)
      · refine rn_iconst (v := nI 0) dX0_isPoint_41 (by decide) ?_
        refine rn_ireturn dX0_isPoint_42 rfl (by decide) ?_
        exact ⟨by rw [show pPoint w h i j = false from decide_eq_false (by first | (have hp := z_par0 ‹¬ (i + j) &&& nI 1 = nI 1›; omega) | (simp only [z_le, z_lt, z_0, e2w, e2h] at *; omega))]; rfl, rfl, rfl⟩
      · refine rn_iload_n dX0_isPoint_18 rfl rfl ?_
        refine rn_iconst (v := nI 2) dX0_isPoint_19 (by decide) ?_
        refine rn_aload_n dX0_isPoint_20 rfl rfl ?_
        refine rn_getI dX0_isPoint_21 fd_0_15 hd.1 hd.2.1 rfl ?_
        refine rn_top (y := nI h) (hh) ?_
        refine rn_imul dX0_isPoint_24 ?_
        refine rn_top (pk_mul _ _) ?_
        refine rn_icmp_gt (tgt := 41) dX0_isPoint_25 (by decide) (fun c_25 => ?_) (fun c_25 => ?_)
        · refine rn_iconst (v := nI 0) dX0_isPoint_41 (by decide) ?_
          refine rn_ireturn dX0_isPoint_42 rfl (by decide) ?_
          exact ⟨by rw [show pPoint w h i j = false from decide_eq_false (by first | (have hp := z_par0 ‹¬ (i + j) &&& nI 1 = nI 1›; omega) | (simp only [z_le, z_lt, z_0, e2w, e2h] at *; omega))]; rfl, rfl, rfl⟩
        · refine rn_iload_n dX0_isPoint_28 rfl rfl ?_
          refine rn_iload_n dX0_isPoint_29 rfl rfl ?_
          refine rn_iadd dX0_isPoint_30 ?_
          refine rn_iconst (v := nI 1) dX0_isPoint_31 (by decide) ?_
          refine rn_iand dX0_isPoint_32 ?_
          refine rn_iconst (v := nI 1) dX0_isPoint_33 (by decide) ?_
          refine rn_icmp_ne (tgt := 41) dX0_isPoint_34 (by decide) (fun c_34 => ?_) (fun c_34 => ?_)
          · refine rn_iconst (v := nI 0) dX0_isPoint_41 (by decide) ?_
            refine rn_ireturn dX0_isPoint_42 rfl (by decide) ?_
            exact ⟨by rw [show pPoint w h i j = false from decide_eq_false (by first | (have hp := z_par0 ‹¬ (i + j) &&& nI 1 = nI 1›; omega) | (simp only [z_le, z_lt, z_0, e2w, e2h] at *; omega))]; rfl, rfl, rfl⟩
          · refine rn_iconst (v := nI 1) dX0_isPoint_37 (by decide) ?_
            refine rn_goto (tgt := 42) dX0_isPoint_38 (by decide) ?_
            refine rn_ireturn dX0_isPoint_42 rfl (by decide) ?_
            have hp := z_par1 ‹(i + j) &&& nI 1 = nI 1›
            exact ⟨by rw [show pPoint w h i j = true from decide_eq_true (by simp only [z_le, z_lt, z_0, e2w, e2h] at *; omega)]; rfl, rfl, rfl⟩
set_option maxHeartbeats 1000000 in
set_option maxRecDepth 100000 in
theorem c_X0_squareCount {S : am_S} {I : am_I} {a q w h : Nat} (hd : am_dr S a q) (hw : I a 0 = nI w) (hh : I a 1 = nI h) (w8 : w ≤ 8) (h8 : h ≤ 8) : am_Mt 0 Y_X0_squareCount (0, 0) [.ref a] S I (am_q (some (.int (nI (4 * w * h)))) S I) := by
  refine am_mt ⟨by decide +kernel, rfl⟩ (Nat.le_of_ble_eq_true rfl) rfl ?_
  refine rn_iconst (v := nI 4) dX0_squareCount_0 (by decide) ?_
  refine rn_aload_n dX0_squareCount_1 rfl rfl ?_
  refine rn_getI dX0_squareCount_2 fd_0_9 hd.1 hd.2.1 rfl ?_
  refine rn_top (y := nI w) (hw) ?_
  refine rn_imul dX0_squareCount_5 ?_
  refine rn_top (pk_mul _ _) ?_
  refine rn_aload_n dX0_squareCount_6 rfl rfl ?_
  refine rn_getI dX0_squareCount_7 fd_0_15 hd.1 hd.2.1 rfl ?_
  refine rn_top (y := nI h) (hh) ?_
  refine rn_imul dX0_squareCount_10 ?_
  refine rn_top (pk_mul _ _) ?_
  refine rn_ireturn dX0_squareCount_11 rfl (vp_nar_int _) ?_
  exact ⟨rfl, rfl, rfl⟩
set_option maxHeartbeats 1000000 in
set_option maxRecDepth 100000 in
theorem c_X0_isSquare {S : am_S} {I : am_I} {a q w h : Nat} (hd : am_dr S a q) (hw : I a 0 = nI w) (hh : I a 1 = nI h) (w8 : w ≤ 8) (h8 : h ≤ 8) (x : Int32) : am_Mt 1 Y_X0_isSquare (0, 0) [.ref a, .int x] S I (am_q (some (.int (am_b (decide (0 ≤ x.toInt ∧ x.toInt < ((4 * w * h : Nat) : Int)))))) S I) := by
  have e0 := z_nI (n := 0) (by decide)
  have hb : 4 * w * h ≤ 256 := Nat.le_trans (Nat.mul_le_mul (Nat.mul_le_mul_left 4 w8) h8) (by decide)
  have e4 := z_nI (n := 4 * w * h) (by omega)
  refine am_mt ⟨by decide +kernel, rfl⟩ (Nat.le_of_ble_eq_true rfl) rfl ?_
  refine rn_iload_n dX0_isSquare_0 rfl rfl ?_
  refine rn_if_lt (tgt := 16) dX0_isSquare_1 (by decide) (fun c_1 => ?_) (fun c_1 => ?_)
  · refine rn_iconst (v := nI 0) dX0_isSquare_16 (by decide) ?_
    refine rn_ireturn dX0_isSquare_17 rfl (by decide) ?_
    exact ⟨by rw [am_b_f (decide_eq_false (by simp only [z_le, z_lt, z_0, e0, e4] at *; omega))]; rfl, rfl, rfl⟩
  · refine rn_iload_n dX0_isSquare_4 rfl rfl ?_
    refine rn_aload_n dX0_isSquare_5 rfl rfl ?_
    refine rn_callVq (st := [.int x]) dX0_isSquare_6 cf_0_32 (c_X0_squareCount hd hw hh w8 h8) (by decide) hd.1 hd.2.1 rfl rfl (Nat.le_of_ble_eq_true rfl) ?_
    refine rn_icmp_ge (tgt := 16) dX0_isSquare_9 (by decide) (fun c_9 => ?_) (fun c_9 => ?_)
    · refine rn_iconst (v := nI 0) dX0_isSquare_16 (by decide) ?_
      refine rn_ireturn dX0_isSquare_17 rfl (by decide) ?_
      exact ⟨by rw [am_b_f (decide_eq_false (by simp only [z_le, z_lt, z_0, e0, e4] at *; omega))]; rfl, rfl, rfl⟩
    · refine rn_iconst (v := nI 1) dX0_isSquare_12 (by decide) ?_
      refine rn_goto (tgt := 17) dX0_isSquare_13 (by decide) ?_
      refine rn_ireturn dX0_isSquare_17 rfl (by decide) ?_
      exact ⟨by rw [am_b_t (decide_eq_true (by simp only [z_le, z_lt, z_0, e0, e4] at *; omega))]; rfl, rfl, rfl⟩
