set_option maxHeartbeats 1000000 in
set_option maxRecDepth 100000 in
theorem c_X3_byteAt {S : am_S} (hs : sk S) {I : am_I} {n p : Nat} (hn : I 16 0 = nI n) (h2 : n ≤ 200) (hp : p < 2147483648) : am_Mt 0 Y_X3_byteAt (0, 0) [.ref 16, .int (nI p)] S I (am_q (some (.int (if p < n then I 17 p else -1))) S I) := by
  refine am_mt ⟨by decide +kernel, rfl⟩ (Nat.le_of_ble_eq_true rfl) rfl ?_
  refine rn_iload_n dX3_byteAt_0 rfl rfl ?_
  refine rn_if_ltN (tgt := 28) dX3_byteAt_1 (by omega) (by decide) ?_
  refine rn_iload_n dX3_byteAt_4 rfl rfl ?_
  refine rn_aload_n dX3_byteAt_5 rfl rfl ?_
  refine rn_getI dX3_byteAt_6 fd_3_19 (sk_l hs 16 (by decide)) (sk_k16 hs) rfl ?_
  refine rn_top (y := nI n) (hn) ?_
  refine rn_icmp_geN (tgt := 28) dX3_byteAt_9 (by decide) (by omega) (by omega) (fun c_9 => ?_) (fun c_9 => ?_)
  · refine rn_iconst (v := (-1)) dX3_byteAt_28 (by decide) ?_
    refine rn_ireturn dX3_byteAt_29 rfl (vp_nar_int _) ?_
    exact ⟨by rw [if_neg (by omega)], rfl, rfl⟩
  · refine rn_iload_n dX3_byteAt_12 rfl rfl ?_
    refine rn_sipush (v := nI 200) dX3_byteAt_13 (by decide) ?_
    refine rn_icmp_geN (tgt := 28) dX3_byteAt_16 (by decide) (by omega) (by omega) (fun c_16 => ?_) (fun c_16 => ?_)
    · refine rn_iconst (v := (-1)) dX3_byteAt_28 (by decide) ?_
      refine rn_ireturn dX3_byteAt_29 rfl (vp_nar_int _) ?_
      exact ⟨by rw [if_neg (by omega)], rfl, rfl⟩
    · refine rn_aload_n dX3_byteAt_19 rfl rfl ?_
      refine rn_getR (r := 17) dX3_byteAt_20 fd_3_15 (sk_l hs 16 (by decide)) (sk_k16 hs) rfl (sk_r16_4 hs) ?_
      refine rn_iload_n dX3_byteAt_23 rfl rfl ?_
      refine rn_ialoadN dX3_byteAt_24 (sk_l hs 17 (by decide)) (sk_k17 hs) (by omega) (by omega) ?_
      refine rn_goto (tgt := 29) dX3_byteAt_25 (by decide) ?_
      refine rn_ireturn dX3_byteAt_29 rfl (vp_nar_int _) ?_
      exact ⟨by rw [if_pos (by omega)], rfl, rfl⟩
set_option maxHeartbeats 1000000 in
set_option maxRecDepth 100000 in
theorem c_X3_beginReading {S : am_S} (hs : sk S) {I : am_I} : am_Mt 0 Y_X3_beginReading (0, 0) [.ref 16] S I (am_q none S (am_up (am_up (am_up I 16 1 (nI 1)) 16 2 (nI 0)) 16 3 (-1))) := by
  refine am_mt ⟨by decide +kernel, rfl⟩ (Nat.le_of_ble_eq_true rfl) rfl ?_
  refine rn_aload_n dX3_beginReading_0 rfl rfl ?_
  refine rn_iconst (v := nI 1) dX3_beginReading_1 (by decide) ?_
  refine rn_putI dX3_beginReading_2 fd_3_22 (sk_l hs 16 (by decide)) (sk_k16 hs) rfl rfl (by decide) (by decide) ?_
  refine rn_aload_n dX3_beginReading_5 rfl rfl ?_
  refine rn_iconst (v := nI 0) dX3_beginReading_6 (by decide) ?_
  refine rn_putI dX3_beginReading_7 fd_3_26 (sk_l hs 16 (by decide)) (sk_k16 hs) rfl rfl (vp_nar_int _) rfl ?_
  refine rn_aload_n dX3_beginReading_10 rfl rfl ?_
  refine rn_iconst (v := (-1)) dX3_beginReading_11 (by decide) ?_
  refine rn_putI dX3_beginReading_12 fd_3_9 (sk_l hs 16 (by decide)) (sk_k16 hs) rfl rfl (vp_nar_int _) rfl ?_
  refine rn_return dX3_beginReading_15 rfl ?_
  exact ⟨rfl, rfl, rfl⟩
set_option maxHeartbeats 1000000 in
set_option maxRecDepth 100000 in
theorem c_X3_fail {S : am_S} (hs : sk S) {I : am_I} (x y : Int32) : am_Mt 0 Y_X3_fail (0, 0) [.ref 16, .int x, .int y] S I (am_q (some (.int (nI 0))) S (am_up (am_up I 16 2 x) 16 3 y)) := by
  refine am_mt ⟨by decide +kernel, rfl⟩ (Nat.le_of_ble_eq_true rfl) rfl ?_
  refine rn_aload_n dX3_fail_0 rfl rfl ?_
  refine rn_iload_n dX3_fail_1 rfl rfl ?_
  refine rn_putI dX3_fail_2 fd_3_26 (sk_l hs 16 (by decide)) (sk_k16 hs) rfl rfl (vp_nar_int _) rfl ?_
  refine rn_aload_n dX3_fail_5 rfl rfl ?_
  refine rn_iload_n dX3_fail_6 rfl rfl ?_
  refine rn_putI dX3_fail_7 fd_3_9 (sk_l hs 16 (by decide)) (sk_k16 hs) rfl rfl (vp_nar_int _) rfl ?_
  refine rn_iconst (v := nI 0) dX3_fail_10 (by decide) ?_
  refine rn_ireturn dX3_fail_11 rfl (by decide) ?_
  exact ⟨rfl, rfl, rfl⟩
def tp_add (I : am_I) (n : Nat) (v : Int32) : am_I := (am_up (am_up (am_up (am_up (am_up (am_up (am_up (am_up I 17 (n) ((v.toUInt32 >>> ((nI 24).toUInt32 &&& Int32.toUInt32 31)).toInt32 &&& nI 255)) 16 0 (nI (n + 1))) 17 (n + 1) ((v.toUInt32 >>> ((nI 16).toUInt32 &&& Int32.toUInt32 31)).toInt32 &&& nI 255)) 16 0 (nI (n + 2))) 17 (n + 2) ((v.toUInt32 >>> ((nI 8).toUInt32 &&& Int32.toUInt32 31)).toInt32 &&& nI 255)) 16 0 (nI (n + 3))) 17 (n + 3) ((v.toUInt32 >>> ((nI 0).toUInt32 &&& Int32.toUInt32 31)).toInt32 &&& nI 255)) 16 0 (nI (n + 4)))
set_option maxHeartbeats 1000000 in
set_option maxRecDepth 100000 in
theorem c_X3_add {S : am_S} (hs : sk S) {I : am_I} {n : Nat} (hn : I 16 0 = nI n) (h2 : n + 4 ≤ 200) (v : Int32) : am_Mt 0 Y_X3_add (0, 0) [.ref 16, .int v] S I (am_q none S (tp_add I n v)) := by
  refine am_mt ⟨by decide +kernel, rfl⟩ (Nat.le_of_ble_eq_true rfl) rfl ?_
  refine rn_bipush (v := nI 24) dX3_add_0 (by decide) ?_
  refine rn_istore_n (ls' := [some (.ref 16), some (.int v), some (.int (nI 24))]) dX3_add_2 rfl (by decide) rfl rfl ?_
  refine rn_iload_n dX3_add_3 rfl rfl ?_
  refine rn_if_ltN (tgt := 56) dX3_add_4 (by omega) (by decide) ?_
  refine rn_aload_n dX3_add_7 rfl rfl ?_
  refine rn_getI dX3_add_8 fd_3_19 (sk_l hs 16 (by decide)) (sk_k16 hs) rfl ?_
  refine rn_top (y := nI n) (hn) ?_
  refine rn_if_ltN (tgt := 50) dX3_add_11 (by omega) (by decide) ?_
  refine rn_aload_n dX3_add_14 rfl rfl ?_
  refine rn_getI dX3_add_15 fd_3_19 (sk_l hs 16 (by decide)) (sk_k16 hs) rfl ?_
  refine rn_top (y := nI n) (hn) ?_
  refine rn_sipush (v := nI 200) dX3_add_18 (by decide) ?_
  refine rn_icmp_geN (tgt := 50) dX3_add_21 (by decide) (by omega) (by omega) (fun c_21 => ?_) (fun c_21 => ?_)
  · omega
  · refine rn_aload_n dX3_add_24 rfl rfl ?_
    refine rn_getR (r := 17) dX3_add_25 fd_3_15 (sk_l hs 16 (by decide)) (sk_k16 hs) rfl (sk_r16_4 hs) ?_
    refine rn_aload_n dX3_add_28 rfl rfl ?_
    refine rn_getI dX3_add_29 fd_3_19 (sk_l hs 16 (by decide)) (sk_k16 hs) rfl ?_
    refine rn_top (y := nI n) (hn) ?_
    refine rn_iload_n dX3_add_32 rfl rfl ?_
    refine rn_iload_n dX3_add_33 rfl rfl ?_
    refine rn_iushr dX3_add_34 rfl ?_
    refine rn_sipush (v := nI 255) dX3_add_35 (by decide) ?_
    refine rn_iand dX3_add_38 ?_
    refine rn_iastoreN dX3_add_39 (sk_l hs 17 (by decide)) (sk_k17 hs) (by omega) (by omega) ?_
    refine rn_aload_n dX3_add_40 rfl rfl ?_
    refine rn_dup dX3_add_41 rfl ?_
    refine rn_getI dX3_add_42 fd_3_19 (sk_l hs 16 (by decide)) (sk_k16 hs) rfl ?_
    refine rn_top (y := nI n) (by have h9 := hn; simp [am_up, va_up, h9]) ?_
    refine rn_iconst (v := nI 1) dX3_add_45 (by decide) ?_
    refine rn_iadd dX3_add_46 ?_
    refine rn_top (nI_add _ _) ?_
    refine rn_putI dX3_add_47 fd_3_19 (sk_l hs 16 (by decide)) (sk_k16 hs) rfl rfl (vp_nar_int _) rfl ?_
    refine rn_iinc (v := nI 16) (ls' := [some (.ref 16), some (.int v), some (.int (nI 16))]) dX3_add_50 rfl (by decide) (by decide) rfl rfl ?_
    refine rn_goto (tgt := 3) dX3_add_53 (by decide) ?_
    refine rn_iload_n dX3_add_3 rfl rfl ?_
    refine rn_if_ltN (tgt := 56) dX3_add_4 (by omega) (by decide) ?_
    refine rn_aload_n dX3_add_7 rfl rfl ?_
    refine rn_getI dX3_add_8 fd_3_19 (sk_l hs 16 (by decide)) (sk_k16 hs) rfl ?_
    refine rn_top (y := nI (n + 1)) (by simp [am_up, va_up]) ?_
    refine rn_if_ltN (tgt := 50) dX3_add_11 (by omega) (by decide) ?_
    refine rn_aload_n dX3_add_14 rfl rfl ?_
    refine rn_getI dX3_add_15 fd_3_19 (sk_l hs 16 (by decide)) (sk_k16 hs) rfl ?_
    refine rn_top (y := nI (n + 1)) (by simp [am_up, va_up]) ?_
    refine rn_sipush (v := nI 200) dX3_add_18 (by decide) ?_
    refine rn_icmp_geN (tgt := 50) dX3_add_21 (by decide) (by omega) (by omega) (fun c_21 => ?_) (fun c_21 => ?_)
    · omega
    · refine rn_aload_n dX3_add_24 rfl rfl ?_
      refine rn_getR (r := 17) dX3_add_25 fd_3_15 (sk_l hs 16 (by decide)) (sk_k16 hs) rfl (sk_r16_4 hs) ?_
      refine rn_aload_n dX3_add_28 rfl rfl ?_
      refine rn_getI dX3_add_29 fd_3_19 (sk_l hs 16 (by decide)) (sk_k16 hs) rfl ?_
      refine rn_top (y := nI (n + 1)) (by simp [am_up, va_up]) ?_
      refine rn_iload_n dX3_add_32 rfl rfl ?_
      refine rn_iload_n dX3_add_33 rfl rfl ?_
      refine rn_iushr dX3_add_34 rfl ?_
      refine rn_sipush (v := nI 255) dX3_add_35 (by decide) ?_
      refine rn_iand dX3_add_38 ?_
      refine rn_iastoreN dX3_add_39 (sk_l hs 17 (by decide)) (sk_k17 hs) (by omega) (by omega) ?_
      refine rn_aload_n dX3_add_40 rfl rfl ?_
      refine rn_dup dX3_add_41 rfl ?_
      refine rn_getI dX3_add_42 fd_3_19 (sk_l hs 16 (by decide)) (sk_k16 hs) rfl ?_
      refine rn_top (y := nI (n + 1)) (by simp [am_up, va_up]) ?_
      refine rn_iconst (v := nI 1) dX3_add_45 (by decide) ?_
      refine rn_iadd dX3_add_46 ?_
      refine rn_top (nI_add _ _) ?_
      refine rn_putI dX3_add_47 fd_3_19 (sk_l hs 16 (by decide)) (sk_k16 hs) rfl rfl (vp_nar_int _) rfl ?_
      refine rn_iinc (v := nI 8) (ls' := [some (.ref 16), some (.int v), some (.int (nI 8))]) dX3_add_50 rfl (by decide) (by decide) rfl rfl ?_
      refine rn_goto (tgt := 3) dX3_add_53 (by decide) ?_
      refine rn_iload_n dX3_add_3 rfl rfl ?_
      refine rn_if_ltN (tgt := 56) dX3_add_4 (by omega) (by decide) ?_
      refine rn_aload_n dX3_add_7 rfl rfl ?_
      refine rn_getI dX3_add_8 fd_3_19 (sk_l hs 16 (by decide)) (sk_k16 hs) rfl ?_
      refine rn_top (y := nI ((n + 1) + 1)) (by simp [am_up, va_up]) ?_
      refine rn_if_ltN (tgt := 50) dX3_add_11 (by omega) (by decide) ?_
      refine rn_aload_n dX3_add_14 rfl rfl ?_
      refine rn_getI dX3_add_15 fd_3_19 (sk_l hs 16 (by decide)) (sk_k16 hs) rfl ?_
      refine rn_top (y := nI ((n + 1) + 1)) (by simp [am_up, va_up]) ?_
      refine rn_sipush (v := nI 200) dX3_add_18 (by decide) ?_
      refine rn_icmp_geN (tgt := 50) dX3_add_21 (by decide) (by omega) (by omega) (fun c_21 => ?_) (fun c_21 => ?_)
      · omega
      · refine rn_aload_n dX3_add_24 rfl rfl ?_
        refine rn_getR (r := 17) dX3_add_25 fd_3_15 (sk_l hs 16 (by decide)) (sk_k16 hs) rfl (sk_r16_4 hs) ?_
        refine rn_aload_n dX3_add_28 rfl rfl ?_
        refine rn_getI dX3_add_29 fd_3_19 (sk_l hs 16 (by decide)) (sk_k16 hs) rfl ?_
        refine rn_top (y := nI ((n + 1) + 1)) (by simp [am_up, va_up]) ?_
        refine rn_iload_n dX3_add_32 rfl rfl ?_
        refine rn_iload_n dX3_add_33 rfl rfl ?_
        refine rn_iushr dX3_add_34 rfl ?_
        refine rn_sipush (v := nI 255) dX3_add_35 (by decide) ?_
        refine rn_iand dX3_add_38 ?_
        refine rn_iastoreN dX3_add_39 (sk_l hs 17 (by decide)) (sk_k17 hs) (by omega) (by omega) ?_
        refine rn_aload_n dX3_add_40 rfl rfl ?_
        refine rn_dup dX3_add_41 rfl ?_
        refine rn_getI dX3_add_42 fd_3_19 (sk_l hs 16 (by decide)) (sk_k16 hs) rfl ?_
        refine rn_top (y := nI ((n + 1) + 1)) (by simp [am_up, va_up]) ?_
        refine rn_iconst (v := nI 1) dX3_add_45 (by decide) ?_
        refine rn_iadd dX3_add_46 ?_
        refine rn_top (nI_add _ _) ?_
        refine rn_putI dX3_add_47 fd_3_19 (sk_l hs 16 (by decide)) (sk_k16 hs) rfl rfl (vp_nar_int _) rfl ?_
        refine rn_iinc (v := nI 0) (ls' := [some (.ref 16), some (.int v), some (.int (nI 0))]) dX3_add_50 rfl (by decide) (by decide) rfl rfl ?_
        refine rn_goto (tgt := 3) dX3_add_53 (by decide) ?_
        refine rn_iload_n dX3_add_3 rfl rfl ?_
        refine rn_if_ltN (tgt := 56) dX3_add_4 (by omega) (by decide) ?_
        refine rn_aload_n dX3_add_7 rfl rfl ?_
        refine rn_getI dX3_add_8 fd_3_19 (sk_l hs 16 (by decide)) (sk_k16 hs) rfl ?_
        refine rn_top (y := nI (((n + 1) + 1) + 1)) (by simp [am_up, va_up]) ?_
        refine rn_if_ltN (tgt := 50) dX3_add_11 (by omega) (by decide) ?_
        refine rn_aload_n dX3_add_14 rfl rfl ?_
        refine rn_getI dX3_add_15 fd_3_19 (sk_l hs 16 (by decide)) (sk_k16 hs) rfl ?_
        refine rn_top (y := nI (((n + 1) + 1) + 1)) (by simp [am_up, va_up]) ?_
        refine rn_sipush (v := nI 200) dX3_add_18 (by decide) ?_
        refine rn_icmp_geN (tgt := 50) dX3_add_21 (by decide) (by omega) (by omega) (fun c_21 => ?_) (fun c_21 => ?_)
        · omega
        · refine rn_aload_n dX3_add_24 rfl rfl ?_
          refine rn_getR (r := 17) dX3_add_25 fd_3_15 (sk_l hs 16 (by decide)) (sk_k16 hs) rfl (sk_r16_4 hs) ?_
          refine rn_aload_n dX3_add_28 rfl rfl ?_
          refine rn_getI dX3_add_29 fd_3_19 (sk_l hs 16 (by decide)) (sk_k16 hs) rfl ?_
          refine rn_top (y := nI (((n + 1) + 1) + 1)) (by simp [am_up, va_up]) ?_
          refine rn_iload_n dX3_add_32 rfl rfl ?_
          refine rn_iload_n dX3_add_33 rfl rfl ?_
          refine rn_iushr dX3_add_34 rfl ?_
          refine rn_sipush (v := nI 255) dX3_add_35 (by decide) ?_
          refine rn_iand dX3_add_38 ?_
          refine rn_iastoreN dX3_add_39 (sk_l hs 17 (by decide)) (sk_k17 hs) (by omega) (by omega) ?_
          refine rn_aload_n dX3_add_40 rfl rfl ?_
          refine rn_dup dX3_add_41 rfl ?_
          refine rn_getI dX3_add_42 fd_3_19 (sk_l hs 16 (by decide)) (sk_k16 hs) rfl ?_
          refine rn_top (y := nI (((n + 1) + 1) + 1)) (by simp [am_up, va_up]) ?_
          refine rn_iconst (v := nI 1) dX3_add_45 (by decide) ?_
          refine rn_iadd dX3_add_46 ?_
          refine rn_top (nI_add _ _) ?_
          refine rn_putI dX3_add_47 fd_3_19 (sk_l hs 16 (by decide)) (sk_k16 hs) rfl rfl (vp_nar_int _) rfl ?_
          refine rn_iinc (v := (-8)) (ls' := [some (.ref 16), some (.int v), some (.int (-8))]) dX3_add_50 rfl (by decide) (by decide) rfl rfl ?_
          refine rn_goto (tgt := 3) dX3_add_53 (by decide) ?_
          refine rn_iload_n dX3_add_3 rfl rfl ?_
          refine rn_if_lt (tgt := 56) dX3_add_4 (by decide) (fun c_4 => ?_) (fun c_4 => ?_)
          · refine rn_return dX3_add_56 rfl ?_
            exact ⟨rfl, rfl, rfl⟩
          · exact absurd c_4 (by decide)
set_option maxHeartbeats 1000000 in
set_option maxRecDepth 100000 in
theorem c_X5_rewind {S : am_S} (hs : sk S) {I : am_I} : am_Mt 0 Y_X5_rewind (0, 0) [.ref 19] S I (am_q none S (am_up I 19 4 (nI 0))) := by
  refine am_mt ⟨by decide +kernel, rfl⟩ (Nat.le_of_ble_eq_true rfl) rfl ?_
  refine rn_aload_n dX5_rewind_0 rfl rfl ?_
  refine rn_iconst (v := nI 0) dX5_rewind_1 (by decide) ?_
  refine rn_putI dX5_rewind_2 fd_5_15 (sk_l hs 19 (by decide)) (sk_k19 hs) rfl rfl (vp_nar_int _) rfl ?_
  refine rn_return dX5_rewind_5 rfl ?_
  exact ⟨rfl, rfl, rfl⟩
set_option maxHeartbeats 1000000 in
set_option maxRecDepth 100000 in
theorem c_X5_isBlank (S : am_S) (I : am_I) (x : Int32) : am_Mt 0 Y_X5_isBlank (0, 0) [.int x] S I (am_q (some (.int (am_b (decide (x = nI 32 ∨ x = nI 10))))) S I) := by
  refine am_mt ⟨by decide +kernel, rfl⟩ (Nat.le_of_ble_eq_true rfl) rfl ?_
  refine rn_iload_n dX5_isBlank_0 rfl rfl ?_
  refine rn_bipush (v := nI 32) dX5_isBlank_1 (by decide) ?_
  refine rn_icmp_eq (tgt := 12) dX5_isBlank_3 (by decide) (fun c_3 => ?_) (fun c_3 => ?_)
  · refine rn_iconst (v := nI 1) dX5_isBlank_12 (by decide) ?_
    refine rn_goto (tgt := 17) dX5_isBlank_13 (by decide) ?_
    refine rn_ireturn dX5_isBlank_17 rfl (by decide) ?_
    exact ⟨by rw [am_b_t (decide_eq_true (by first | exact Or.inl ‹x = nI 32› | exact Or.inr ‹x = nI 10›))]; rfl, rfl, rfl⟩
  · refine rn_iload_n dX5_isBlank_6 rfl rfl ?_
    refine rn_bipush (v := nI 10) dX5_isBlank_7 (by decide) ?_
    refine rn_icmp_ne (tgt := 16) dX5_isBlank_9 (by decide) (fun c_9 => ?_) (fun c_9 => ?_)
    · refine rn_iconst (v := nI 0) dX5_isBlank_16 (by decide) ?_
      refine rn_ireturn dX5_isBlank_17 rfl (by decide) ?_
      exact ⟨by rw [am_b_f (decide_eq_false (fun hh => hh.elim ‹¬ x = nI 32› ‹¬ x = nI 10›))]; rfl, rfl, rfl⟩
    · refine rn_iconst (v := nI 1) dX5_isBlank_12 (by decide) ?_
      refine rn_goto (tgt := 17) dX5_isBlank_13 (by decide) ?_
      refine rn_ireturn dX5_isBlank_17 rfl (by decide) ?_
      exact ⟨by rw [am_b_t (decide_eq_true (by first | exact Or.inl ‹x = nI 32› | exact Or.inr ‹x = nI 10›))]; rfl, rfl, rfl⟩
set_option maxHeartbeats 1000000 in
set_option maxRecDepth 100000 in
theorem c_X5_isDigit (S : am_S) (I : am_I) (x : Int32) : am_Mt 0 Y_X5_isDigit (0, 0) [.int x] S I (am_q (some (.int (am_b (decide (48 ≤ x.toInt ∧ x.toInt ≤ 57))))) S I) := by
  have e1 := z_nI (n := 48) (by decide)
  have e2 := z_nI (n := 57) (by decide)
  refine am_mt ⟨by decide +kernel, rfl⟩ (Nat.le_of_ble_eq_true rfl) rfl ?_
  refine rn_iload_n dX5_isDigit_0 rfl rfl ?_
  refine rn_bipush (v := nI 48) dX5_isDigit_1 (by decide) ?_
  refine rn_icmp_lt (tgt := 16) dX5_isDigit_3 (by decide) (fun c_3 => ?_) (fun c_3 => ?_)
  · refine rn_iconst (v := nI 0) dX5_isDigit_16 (by decide) ?_
    refine rn_ireturn dX5_isDigit_17 rfl (by decide) ?_
    exact ⟨by rw [am_b_f (decide_eq_false (by simp only [z_le, z_lt, e1, e2] at *; omega))]; rfl, rfl, rfl⟩
  · refine rn_iload_n dX5_isDigit_6 rfl rfl ?_
    refine rn_bipush (v := nI 57) dX5_isDigit_7 (by decide) ?_
    refine rn_icmp_gt (tgt := 16) dX5_isDigit_9 (by decide) (fun c_9 => ?_) (fun c_9 => ?_)
    · refine rn_iconst (v := nI 0) dX5_isDigit_16 (by decide) ?_
      refine rn_ireturn dX5_isDigit_17 rfl (by decide) ?_
      exact ⟨by rw [am_b_f (decide_eq_false (by simp only [z_le, z_lt, e1, e2] at *; omega))]; rfl, rfl, rfl⟩
    · refine rn_iconst (v := nI 1) dX5_isDigit_12 (by decide) ?_
      refine rn_goto (tgt := 17) dX5_isDigit_13 (by decide) ?_
      refine rn_ireturn dX5_isDigit_17 rfl (by decide) ?_
      exact ⟨by rw [am_b_t (decide_eq_true (by simp only [z_le, z_lt, e1, e2] at *; omega))]; rfl, rfl, rfl⟩
set_option maxHeartbeats 1000000 in
set_option maxRecDepth 100000 in
theorem c_X5_isLetter (S : am_S) (I : am_I) (x : Int32) : am_Mt 0 Y_X5_isLetter (0, 0) [.int x] S I (am_q (some (.int (am_b (decide (97 ≤ x.toInt ∧ x.toInt ≤ 122))))) S I) := by
  have e1 := z_nI (n := 97) (by decide)
  have e2 := z_nI (n := 122) (by decide)
  refine am_mt ⟨by decide +kernel, rfl⟩ (Nat.le_of_ble_eq_true rfl) rfl ?_
  refine rn_iload_n dX5_isLetter_0 rfl rfl ?_
  refine rn_bipush (v := nI 97) dX5_isLetter_1 (by decide) ?_
  refine rn_icmp_lt (tgt := 16) dX5_isLetter_3 (by decide) (fun c_3 => ?_) (fun c_3 => ?_)
  · refine rn_iconst (v := nI 0) dX5_isLetter_16 (by decide) ?_
    refine rn_ireturn dX5_isLetter_17 rfl (by decide) ?_
    exact ⟨by rw [am_b_f (decide_eq_false (by simp only [z_le, z_lt, e1, e2] at *; omega))]; rfl, rfl, rfl⟩
  · refine rn_iload_n dX5_isLetter_6 rfl rfl ?_
    refine rn_bipush (v := nI 122) dX5_isLetter_7 (by decide) ?_
    refine rn_icmp_gt (tgt := 16) dX5_isLetter_9 (by decide) (fun c_9 => ?_) (fun c_9 => ?_)
    · refine rn_iconst (v := nI 0) dX5_isLetter_16 (by decide) ?_
      refine rn_ireturn dX5_isLetter_17 rfl (by decide) ?_
      exact ⟨by rw [am_b_f (decide_eq_false (by simp only [z_le, z_lt, e1, e2] at *; omega))]; rfl, rfl, rfl⟩
    · refine rn_iconst (v := nI 1) dX5_isLetter_12 (by decide) ?_
      refine rn_goto (tgt := 17) dX5_isLetter_13 (by decide) ?_
      refine rn_ireturn dX5_isLetter_17 rfl (by decide) ?_
      exact ⟨by rw [am_b_t (decide_eq_true (by simp only [z_le, z_lt, e1, e2] at *; omega))]; rfl, rfl, rfl⟩
set_option maxHeartbeats 1000000 in
set_option maxRecDepth 100000 in
theorem c_X2_isLine {S : am_S} (hs : sk S) {I : am_I} {n : Nat} (hn : I 7 0 = nI n) (h2 : n ≤ 256) (x : Int32) : am_Mt 0 Y_X2_isLine (0, 0) [.ref 7, .int x] S I (am_q (some (.int (am_b (decide (0 ≤ x.toInt ∧ x.toInt < n))))) S I) := by
  have e1 := z_nI (n := n) (by omega)
  refine am_mt ⟨by decide +kernel, rfl⟩ (Nat.le_of_ble_eq_true rfl) rfl ?_
  refine rn_iload_n dX2_isLine_0 rfl rfl ?_
  refine rn_if_lt (tgt := 16) dX2_isLine_1 (by decide) (fun c_1 => ?_) (fun c_1 => ?_)
  · refine rn_iconst (v := nI 0) dX2_isLine_16 (by decide) ?_
    refine rn_ireturn dX2_isLine_17 rfl (by decide) ?_
    exact ⟨by rw [am_b_f (decide_eq_false (by simp only [z_le, z_lt, z_0, e1] at *; omega))]; rfl, rfl, rfl⟩
  · refine rn_iload_n dX2_isLine_4 rfl rfl ?_
    refine rn_aload_n dX2_isLine_5 rfl rfl ?_
    refine rn_getI dX2_isLine_6 fd_2_30 (sk_l hs 7 (by decide)) (sk_k7 hs) rfl ?_
    refine rn_top (y := nI n) (hn) ?_
    refine rn_icmp_ge (tgt := 16) dX2_isLine_9 (by decide) (fun c_9 => ?_) (fun c_9 => ?_)
    · refine rn_iconst (v := nI 0) dX2_isLine_16 (by decide) ?_
      refine rn_ireturn dX2_isLine_17 rfl (by decide) ?_
      exact ⟨by rw [am_b_f (decide_eq_false (by simp only [z_le, z_lt, z_0, e1] at *; omega))]; rfl, rfl, rfl⟩
    · refine rn_iconst (v := nI 1) dX2_isLine_12 (by decide) ?_
      refine rn_goto (tgt := 17) dX2_isLine_13 (by decide) ?_
      refine rn_ireturn dX2_isLine_17 rfl (by decide) ?_
      exact ⟨by rw [am_b_t (decide_eq_true (by simp only [z_le, z_lt, z_0, e1] at *; omega))]; rfl, rfl, rfl⟩
set_option maxHeartbeats 1000000 in
set_option maxRecDepth 100000 in
theorem c_X2_lineThrough {S : am_S} (hs : sk S) {I : am_I} {p : Nat} (hp : p < 256) : am_Mt 0 Y_X2_lineThrough (0, 0) [.ref 7, .int (nI p)] S I (am_q (some (.int (I 8 p))) S I) := by
  refine am_mt ⟨by decide +kernel, rfl⟩ (Nat.le_of_ble_eq_true rfl) rfl ?_
  refine rn_iload_n dX2_lineThrough_0 rfl rfl ?_
  refine rn_if_ltN (tgt := 20) dX2_lineThrough_1 (by omega) (by decide) ?_
  refine rn_iload_n dX2_lineThrough_4 rfl rfl ?_
  refine rn_sipush (v := nI 256) dX2_lineThrough_5 (by decide) ?_
  refine rn_icmp_geN (tgt := 20) dX2_lineThrough_8 (by decide) (by omega) (by omega) (fun c_8 => ?_) (fun c_8 => ?_)
  · omega
  · refine rn_aload_n dX2_lineThrough_11 rfl rfl ?_
    refine rn_getR (r := 8) dX2_lineThrough_12 fd_2_9 (sk_l hs 7 (by decide)) (sk_k7 hs) rfl (sk_r7_1 hs) ?_
    refine rn_iload_n dX2_lineThrough_15 rfl rfl ?_
    refine rn_ialoadN dX2_lineThrough_16 (sk_l hs 8 (by decide)) (sk_k8 hs) (by omega) (by omega) ?_
    refine rn_goto (tgt := 21) dX2_lineThrough_17 (by decide) ?_
    refine rn_ireturn dX2_lineThrough_21 rfl (vp_nar_int _) ?_
    exact ⟨rfl, rfl, rfl⟩
set_option maxHeartbeats 1000000 in
set_option maxRecDepth 100000 in
theorem c_X2_placeInWalk {S : am_S} (hs : sk S) {I : am_I} {p : Nat} (hp : p < 256) : am_Mt 0 Y_X2_placeInWalk (0, 0) [.ref 7, .int (nI p)] S I (am_q (some (.int (I 9 p))) S I) := by
  refine am_mt ⟨by decide +kernel, rfl⟩ (Nat.le_of_ble_eq_true rfl) rfl ?_
  refine rn_iload_n dX2_placeInWalk_0 rfl rfl ?_
  refine rn_if_ltN (tgt := 20) dX2_placeInWalk_1 (by omega) (by decide) ?_
  refine rn_iload_n dX2_placeInWalk_4 rfl rfl ?_
  refine rn_sipush (v := nI 256) dX2_placeInWalk_5 (by decide) ?_
  refine rn_icmp_geN (tgt := 20) dX2_placeInWalk_8 (by decide) (by omega) (by omega) (fun c_8 => ?_) (fun c_8 => ?_)
  · omega
  · refine rn_aload_n dX2_placeInWalk_11 rfl rfl ?_
    refine rn_getR (r := 9) dX2_placeInWalk_12 fd_2_15 (sk_l hs 7 (by decide)) (sk_k7 hs) rfl (sk_r7_2 hs) ?_
    refine rn_iload_n dX2_placeInWalk_15 rfl rfl ?_
    refine rn_ialoadN dX2_placeInWalk_16 (sk_l hs 9 (by decide)) (sk_k9 hs) (by omega) (by omega) ?_
    refine rn_goto (tgt := 21) dX2_placeInWalk_17 (by decide) ?_
    refine rn_ireturn dX2_placeInWalk_21 rfl (vp_nar_int _) ?_
    exact ⟨rfl, rfl, rfl⟩
set_option maxHeartbeats 1000000 in
set_option maxRecDepth 100000 in
theorem c_X2_lengthOf {S : am_S} (hs : sk S) {I : am_I} {n l t u : Nat} (hn : I 7 0 = nI n) (h2 : n ≤ 256) (hl : l < n) (h3 : I 11 l = nI t) (h4 : I 11 (l + 1) = nI u) (h5 : t ≤ u) : am_Mt 1 Y_X2_lengthOf (0, 0) [.ref 7, .int (nI l)] S I (am_q (some (.int (nI (u - t)))) S I) := by
  refine am_mt ⟨by decide +kernel, rfl⟩ (Nat.le_of_ble_eq_true rfl) rfl ?_
  refine rn_aload_n dX2_lengthOf_0 rfl rfl ?_
  refine rn_iload_n dX2_lengthOf_1 rfl rfl ?_
  refine rn_callVq (st := []) dX2_lengthOf_2 cf_2_58 (c_X2_isLine hs hn h2 _) (by decide) (sk_l hs 7 (by decide)) (sk_k7 hs) rfl rfl (Nat.le_of_ble_eq_true rfl) ?_
  refine rn_if_eqB (tgt := 26) dX2_lengthOf_5 (by decide) (fun c_5 => ?_) (fun c_5 => ?_)
  · exact absurd c_5 (by rw [z_nI (by omega)]; simp; omega)
  · refine rn_aload_n dX2_lengthOf_8 rfl rfl ?_
    refine rn_getR (r := 11) dX2_lengthOf_9 fd_2_21 (sk_l hs 7 (by decide)) (sk_k7 hs) rfl (sk_r7_4 hs) ?_
    refine rn_iload_n dX2_lengthOf_12 rfl rfl ?_
    refine rn_iconst (v := nI 1) dX2_lengthOf_13 (by decide) ?_
    refine rn_iadd dX2_lengthOf_14 ?_
    refine rn_top (nI_add _ _) ?_
    refine rn_ialoadN dX2_lengthOf_15 (sk_l hs 11 (by decide)) (sk_k11 hs) (by omega) (by omega) ?_
    refine rn_top (y := nI u) (h4) ?_
    refine rn_aload_n dX2_lengthOf_16 rfl rfl ?_
    refine rn_getR (r := 11) dX2_lengthOf_17 fd_2_21 (sk_l hs 7 (by decide)) (sk_k7 hs) rfl (sk_r7_4 hs) ?_
    refine rn_iload_n dX2_lengthOf_20 rfl rfl ?_
    refine rn_ialoadN dX2_lengthOf_21 (sk_l hs 11 (by decide)) (sk_k11 hs) (by omega) (by omega) ?_
    refine rn_top (y := nI t) (h3) ?_
    refine rn_isub dX2_lengthOf_22 ?_
    refine rn_top (pk_sub (by omega)) ?_
    refine rn_goto (tgt := 27) dX2_lengthOf_23 (by decide) ?_
    refine rn_ireturn dX2_lengthOf_27 rfl (vp_nar_int _) ?_
    exact ⟨rfl, rfl, rfl⟩
set_option maxHeartbeats 1000000 in
set_option maxRecDepth 100000 in
theorem c_X2_lengthOf_no {S : am_S} (hs : sk S) {I : am_I} {n : Nat} (hn : I 7 0 = nI n) (h2 : n ≤ 256) {l : Int32} (hl : ¬ (0 ≤ l.toInt ∧ l.toInt < n)) : am_Mt 1 Y_X2_lengthOf (0, 0) [.ref 7, .int l] S I (am_q (some (.int (nI 0))) S I) := by
  refine am_mt ⟨by decide +kernel, rfl⟩ (Nat.le_of_ble_eq_true rfl) rfl ?_
  refine rn_aload_n dX2_lengthOf_0 rfl rfl ?_
  refine rn_iload_n dX2_lengthOf_1 rfl rfl ?_
  refine rn_callVq (st := []) dX2_lengthOf_2 cf_2_58 (c_X2_isLine hs hn h2 _) (by decide) (sk_l hs 7 (by decide)) (sk_k7 hs) rfl rfl (Nat.le_of_ble_eq_true rfl) ?_
  refine rn_if_eqB (tgt := 26) dX2_lengthOf_5 (by decide) (fun c_5 => ?_) (fun c_5 => ?_)
  · refine rn_iconst (v := nI 0) dX2_lengthOf_26 (by decide) ?_
    refine rn_ireturn dX2_lengthOf_27 rfl (vp_nar_int _) ?_
    exact ⟨rfl, rfl, rfl⟩
  · exact absurd (of_decide_eq_true c_5) hl
set_option maxHeartbeats 1000000 in
set_option maxRecDepth 100000 in
theorem c_X1_columnOf {S : am_S} (hs : sk S) {I : am_I} {n k : Nat} (hn : I 12 0 = nI n) (h2 : n ≤ 128) (hk : k < n) : am_Mt 0 Y_X1_columnOf (0, 0) [.ref 12, .int (nI k)] S I (am_q (some (.int (I 13 k))) S I) := by
  refine am_mt ⟨by decide +kernel, rfl⟩ (Nat.le_of_ble_eq_true rfl) rfl ?_
  refine rn_iload_n dX1_columnOf_0 rfl rfl ?_
  refine rn_if_ltN (tgt := 21) dX1_columnOf_1 (by omega) (by decide) ?_
  refine rn_iload_n dX1_columnOf_4 rfl rfl ?_
  refine rn_aload_n dX1_columnOf_5 rfl rfl ?_
  refine rn_getI dX1_columnOf_6 fd_1_21 (sk_l hs 12 (by decide)) (sk_k12 hs) rfl ?_
  refine rn_top (y := nI n) (hn) ?_
  refine rn_icmp_geN (tgt := 21) dX1_columnOf_9 (by decide) (by omega) (by omega) (fun c_9 => ?_) (fun c_9 => ?_)
  · omega
  · refine rn_aload_n dX1_columnOf_12 rfl rfl ?_
    refine rn_getR (r := 13) dX1_columnOf_13 fd_1_9 (sk_l hs 12 (by decide)) (sk_k12 hs) rfl (sk_r12_1 hs) ?_
    refine rn_iload_n dX1_columnOf_16 rfl rfl ?_
    refine rn_ialoadN dX1_columnOf_17 (sk_l hs 13 (by decide)) (sk_k13 hs) (by omega) (by omega) ?_
    refine rn_goto (tgt := 22) dX1_columnOf_18 (by decide) ?_
    refine rn_ireturn dX1_columnOf_22 rfl (vp_nar_int _) ?_
    exact ⟨rfl, rfl, rfl⟩
set_option maxHeartbeats 1000000 in
set_option maxRecDepth 100000 in
theorem c_X1_rowOf {S : am_S} (hs : sk S) {I : am_I} {n k : Nat} (hn : I 12 0 = nI n) (h2 : n ≤ 128) (hk : k < n) : am_Mt 0 Y_X1_rowOf (0, 0) [.ref 12, .int (nI k)] S I (am_q (some (.int (I 14 k))) S I) := by
  refine am_mt ⟨by decide +kernel, rfl⟩ (Nat.le_of_ble_eq_true rfl) rfl ?_
  refine rn_iload_n dX1_rowOf_0 rfl rfl ?_
  refine rn_if_ltN (tgt := 21) dX1_rowOf_1 (by omega) (by decide) ?_
  refine rn_iload_n dX1_rowOf_4 rfl rfl ?_
  refine rn_aload_n dX1_rowOf_5 rfl rfl ?_
  refine rn_getI dX1_rowOf_6 fd_1_21 (sk_l hs 12 (by decide)) (sk_k12 hs) rfl ?_
  refine rn_top (y := nI n) (hn) ?_
  refine rn_icmp_geN (tgt := 21) dX1_rowOf_9 (by decide) (by omega) (by omega) (fun c_9 => ?_) (fun c_9 => ?_)
  · omega
  · refine rn_aload_n dX1_rowOf_12 rfl rfl ?_
    refine rn_getR (r := 14) dX1_rowOf_13 fd_1_15 (sk_l hs 12 (by decide)) (sk_k12 hs) rfl (sk_r12_2 hs) ?_
    refine rn_iload_n dX1_rowOf_16 rfl rfl ?_
    refine rn_ialoadN dX1_rowOf_17 (sk_l hs 14 (by decide)) (sk_k14 hs) (by omega) (by omega) ?_
    refine rn_goto (tgt := 22) dX1_rowOf_18 (by decide) ?_
    refine rn_ireturn dX1_rowOf_22 rfl (vp_nar_int _) ?_
    exact ⟨rfl, rfl, rfl⟩
set_option maxHeartbeats 1000000 in
set_option maxRecDepth 100000 in
theorem c_X7_lowerOther (S : am_S) (I : am_I) (x : Int32) : am_Mt 0 Y_X7_lowerOther (0, 0) [.int x] S I (am_q (some (.int (if x = 0 then nI 1 else nI 0))) S I) := by
  refine am_mt ⟨by decide +kernel, rfl⟩ (Nat.le_of_ble_eq_true rfl) rfl ?_
  refine rn_iload_n dX7_lowerOther_0 rfl rfl ?_
  refine rn_if_ne (tgt := 8) dX7_lowerOther_1 (by decide) (fun c_1 => ?_) (fun c_1 => ?_)
  · refine rn_iconst (v := nI 0) dX7_lowerOther_8 (by decide) ?_
    refine rn_ireturn dX7_lowerOther_9 rfl (vp_nar_int _) ?_
    exact ⟨by first | rw [if_pos c_1] | rw [if_neg c_1], rfl, rfl⟩
  · refine rn_iconst (v := nI 1) dX7_lowerOther_4 (by decide) ?_
    refine rn_goto (tgt := 9) dX7_lowerOther_5 (by decide) ?_
    refine rn_ireturn dX7_lowerOther_9 rfl (vp_nar_int _) ?_
    exact ⟨by first | rw [if_pos c_1] | rw [if_neg c_1], rfl, rfl⟩
set_option maxHeartbeats 1000000 in
set_option maxRecDepth 100000 in
theorem c_X7_forgetLines {S : am_S} (hs : sk S) {I : am_I} : am_Mt 0 Y_X7_forgetLines (0, 0) [.ref 0] S I (am_q none S (am_up (am_up I 0 9 (nI 0)) 0 10 (nI 0))) := by
  refine am_mt ⟨by decide +kernel, rfl⟩ (Nat.le_of_ble_eq_true rfl) rfl ?_
  refine rn_aload_n dX7_forgetLines_0 rfl rfl ?_
  refine rn_iconst (v := nI 0) dX7_forgetLines_1 (by decide) ?_
  refine rn_putI dX7_forgetLines_2 fd_7_79 (sk_l hs 0 (by decide)) (sk_k0 hs) rfl rfl (by decide) (by decide) ?_
  refine rn_aload_n dX7_forgetLines_5 rfl rfl ?_
  refine rn_iconst (v := nI 0) dX7_forgetLines_6 (by decide) ?_
  refine rn_putI dX7_forgetLines_7 fd_7_83 (sk_l hs 0 (by decide)) (sk_k0 hs) rfl rfl (by decide) (by decide) ?_
  refine rn_return dX7_forgetLines_10 rfl ?_
  exact ⟨rfl, rfl, rfl⟩
