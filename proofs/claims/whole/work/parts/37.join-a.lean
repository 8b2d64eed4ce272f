def unF (f : Nat → Int32) (n : Nat) (kp gn : Int32) : Nat → Int32 := fun x => if x < n ∧ f x = gn then kp else f x
def unI (I : am_I) (kp gn : Int32) : am_I := va_up I 15 (unF (I 15) 256 kp gn)
theorem unF_0 (I : am_I) (kp gn : Int32) : I = va_up I 15 (unF (I 15) 0 kp gn) := by
  funext a k
  by_cases h : a = 15
  · simp [va_up, h, unF]
  · simp [va_up, h]
theorem unF_hit {I : am_I} {k : Nat} {kp gn : Int32} (h : I 15 k = gn) : am_up (va_up I 15 (unF (I 15) k kp gn)) 15 k kp = va_up I 15 (unF (I 15) (k + 1) kp gn) := by
  funext a x
  by_cases ha : a = 15
  · by_cases hx : x = k
    · simp [am_up, va_up, ha, hx, unF, h]
    · have e : x < k ↔ x < k + 1 := by omega
      simp [am_up, va_up, ha, hx, unF, e]
  · simp [am_up, va_up, ha]
theorem unF_miss {I : am_I} {k : Nat} {kp gn : Int32} (h : ¬ I 15 k = gn) : va_up I 15 (unF (I 15) k kp gn) = va_up I 15 (unF (I 15) (k + 1) kp gn) := by
  funext a x
  by_cases ha : a = 15
  · by_cases hx : x = k
    · simp [va_up, ha, hx, unF, h]
    · have e : x < k ↔ x < k + 1 := by omega
      simp [va_up, ha, unF, e]
  · simp [va_up, ha]
theorem unF_at (I : am_I) (k : Nat) (kp gn : Int32) : va_up I 15 (unF (I 15) k kp gn) 15 k = I 15 k := by simp [va_up, unF]
theorem unI_o (I : am_I) (kp gn : Int32) {b : Nat} (hb : b ≠ 15) : unI I kp gn b = I b := by simp [unI, va_up, hb]
theorem unI_at (I : am_I) (kp gn : Int32) {x : Nat} (hx : x < 256) : unI I kp gn 15 x = if I 15 x = gn then kp else I 15 x := by simp [unI, va_up, unF, hx]
def idF (f : Nat → Int32) (n : Nat) : Nat → Int32 := fun x => if x < n then nI x else f x
theorem idF_0 (I : am_I) (r : Nat) : I = va_up I r (idF (I r) 0) := by
  funext a k
  by_cases h : a = r
  · simp [va_up, h, idF]
  · simp [va_up, h]
theorem idF_step (I : am_I) (r k : Nat) : am_up (va_up I r (idF (I r) k)) r k (nI k) = va_up I r (idF (I r) (k + 1)) := by
  funext a x
  by_cases ha : a = r
  · by_cases hx : x = k
    · simp [am_up, va_up, ha, hx, idF]
    · have e : x < k ↔ x < k + 1 := by omega
      simp [am_up, va_up, ha, hx, idF, e]
  · simp [am_up, va_up, ha]
set_option maxHeartbeats 1000000 in
set_option maxRecDepth 100000 in
theorem c_X1_unite {S : am_S} (hs : sk S) {I : am_I} (kp gn : Int32) : am_Mt 0 Y_X1_unite (0, 0) [.ref 12, .int kp, .int gn] S I (am_q none S (unI I kp gn)) := by
  have LP : ∀ k, k ≤ 256 → am_Rn 0 Y_X1_unite (0, 0) 2 [some (.ref 12), some (.int kp), some (.int gn), some (.int (nI k))] [] S (va_up I 15 (unF (I 15) k kp gn)) (am_q none S (unI I kp gn)) := by
    refine am_loop 256 (fun k hk ih => ?_)
    refine rn_iload_n dX1_unite_2 rfl rfl ?_
    refine rn_sipush (v := nI 256) dX1_unite_3 (by decide) ?_
    refine rn_icmp_geN (tgt := 32) dX1_unite_6 (by decide) (by omega) (by omega) (fun c_6 => ?_) (fun c_6 => ?_)
    · refine rn_return dX1_unite_32 rfl ?_
      obtain rfl : k = 256 := by omega
      exact ⟨rfl, rfl, rfl⟩
    · refine rn_aload_n dX1_unite_9 rfl rfl ?_
      refine rn_getR (r := 15) dX1_unite_10 fd_1_18 (sk_l hs 12 (by decide)) (sk_k12 hs) rfl (sk_r12_3 hs) ?_
      refine rn_iload_n dX1_unite_13 rfl rfl ?_
      refine rn_ialoadN dX1_unite_14 (sk_l hs 15 (by decide)) (sk_k15 hs) (by omega) (by omega) ?_
      refine rn_top (y := I 15 k) (unF_at I k kp gn) ?_
      refine rn_iload_n dX1_unite_15 rfl rfl ?_
      refine rn_icmp_ne (tgt := 26) dX1_unite_16 (by decide) (fun c_16 => ?_) (fun c_16 => ?_)
      · refine rn_iinc (v := nI (k + 1)) (ls' := [some (.ref 12), some (.int kp), some (.int gn), some (.int (nI (k + 1)))]) dX1_unite_26 rfl (nI_add _ 1) (by decide) rfl rfl ?_
        refine rn_goto (tgt := 2) dX1_unite_29 (by decide) ?_
        refine rn_I (unF_miss c_16) ?_
        exact ih (by omega)
      · refine rn_aload_n dX1_unite_19 rfl rfl ?_
        refine rn_getR (r := 15) dX1_unite_20 fd_1_18 (sk_l hs 12 (by decide)) (sk_k12 hs) rfl (sk_r12_3 hs) ?_
        refine rn_iload_n dX1_unite_23 rfl rfl ?_
        refine rn_iload_n dX1_unite_24 rfl rfl ?_
        refine rn_iastoreN dX1_unite_25 (sk_l hs 15 (by decide)) (sk_k15 hs) (by omega) (by omega) ?_
        refine rn_iinc (v := nI (k + 1)) (ls' := [some (.ref 12), some (.int kp), some (.int gn), some (.int (nI (k + 1)))]) dX1_unite_26 rfl (nI_add _ 1) (by decide) rfl rfl ?_
        refine rn_goto (tgt := 2) dX1_unite_29 (by decide) ?_
        refine rn_I (unF_hit c_16) ?_
        exact ih (by omega)
  refine am_mt ⟨by decide +kernel, rfl⟩ (Nat.le_of_ble_eq_true rfl) rfl ?_
  refine rn_iconst (v := nI 0) dX1_unite_0 (by decide) ?_
  refine rn_istore_n (ls' := [some (.ref 12), some (.int kp), some (.int gn), some (.int (nI 0))]) dX1_unite_1 rfl (by decide) rfl rfl ?_
  refine rn_I (unF_0 I kp gn) ?_
  exact LP 0 (by omega)
noncomputable def tpI (w h : Nat) (M : Nat → Nat → Nat) (I : am_I) (n i j : Nat) : am_I := am_up (am_up (am_up (unI I (I 15 (lnum w h M (ulS w i j))) (I 15 (lnum w h M (st1 w M i j)))) 13 n (nI i)) 14 n (nI j)) 12 0 (nI (n + 1))
set_option maxHeartbeats 1000000 in
set_option maxRecDepth 100000 in
theorem c_X1_tryPoint {S : am_S} (hs : sk S) {I : am_I} {w h i j n : Nat} {M : Nat → Nat → Nat} (w1 : 1 ≤ w) (w8 : w ≤ 8) (h8 : h ≤ 8) (hok : okM w h M) (hX : isDr I 1 2 w h M) (hL : LX w h M I 8 9 10 11) (hin : nInner w h i j = true) (hn : I 12 0 = nI n) (hn8 : n < 128) : am_Mt 2 Y_X1_tryPoint (0, 0) [.ref 12, .ref 1, .ref 7, .int (nI i), .int (nI j)] S I (fun r S' I' => r = none ∧ S' = S ∧ ((I 15 (lnum w h M (ulS w i j)) = I 15 (lnum w h M (st1 w M i j)) ∧ I' = I) ∨ (¬ I 15 (lnum w h M (ulS w i j)) = I 15 (lnum w h M (st1 w M i j)) ∧ I' = tpI w h M I n i j))) := by
  have h256 := sq_bound w8 h8
  have hb := nIn.mp hin
  have hu := ul_b hin
  have hm2 := hok i j hin
  have hs1 : st1 w M i j < 4 * w * h := by unfold st1; split <;> omega
  have hA9 := lnum_lt (M := M) w1 (show ulS w i j < 4 * w * h by omega)
  have hB9 := lnum_lt (M := M) w1 hs1
  have hcn := lcnt_le (h := h) (M := M) w1
  by_cases hm : M i j = 0
  · have hmA : am_Mt 1 Y_X0_mirrorAt (0, 0) [.ref 1, .int (nI i), .int (nI j)] S I (am_q (some (.int (nI 0))) S I) := by
      have h9 := c_X0_mAt (sk_d1 hs) hX w8 h8 (i := i) (j := j) (by omega) (by omega)
      rw [show gv w h M i j = M i j from if_pos hin, hm] at h9
      exact h9
    have hB : nI (lnum w h M (ulS w i j + 1)) = nI (lnum w h M (st1 w M i j)) := by rw [show st1 w M i j = ulS w i j + 1 from if_neg (by omega)]
    refine am_mt ⟨by decide +kernel, rfl⟩ (Nat.le_of_ble_eq_true rfl) rfl ?_
    refine rn_iconst (v := nI 2) dX1_tryPoint_0 (by decide) ?_
    refine rn_aload_n dX1_tryPoint_1 rfl rfl ?_
    refine rn_getI dX1_tryPoint_2 fd_1_30 (sk_l hs 1 (by decide)) (sk_k1 hs) rfl ?_
    refine rn_top (y := nI w) (hX.1) ?_
    refine rn_imul dX1_tryPoint_5 ?_
    refine rn_top (pk_mul _ _) ?_
    refine rn_istore (ls' := [some (.ref 12), some (.ref 1), some (.ref 7), some (.int (nI i)), some (.int (nI j)), some (.int (nI (2 * w))), none, none, none, none, none, none]) dX1_tryPoint_6 (by decide) rfl rfl ?_
    refine rn_iload dX1_tryPoint_8 rfl ?_
    refine rn_iload dX1_tryPoint_10 rfl ?_
    refine rn_imul dX1_tryPoint_12 ?_
    refine rn_top (pk_mul _ _) ?_
    refine rn_iload_n dX1_tryPoint_13 rfl rfl ?_
    refine rn_iadd dX1_tryPoint_14 ?_
    refine rn_top (nI_add _ _) ?_
    refine rn_top (y := nI (ulS w i j + 2 * w + 1)) (by rw [hu.2]) ?_
    refine rn_istore (ls' := [some (.ref 12), some (.ref 1), some (.ref 7), some (.int (nI i)), some (.int (nI j)), some (.int (nI (2 * w))), some (.int (nI (ulS w i j + 2 * w + 1))), none, none, none, none, none]) dX1_tryPoint_15 (by decide) rfl rfl ?_
    refine rn_iload dX1_tryPoint_17 rfl ?_
    refine rn_iload dX1_tryPoint_19 rfl ?_
    refine rn_isub dX1_tryPoint_21 ?_
    refine rn_top (pk_sub (by omega)) ?_
    refine rn_top (y := nI (ulS w i j + 1)) (by congr 1; omega) ?_
    refine rn_istore (ls' := [some (.ref 12), some (.ref 1), some (.ref 7), some (.int (nI i)), some (.int (nI j)), some (.int (nI (2 * w))), some (.int (nI (ulS w i j + 2 * w + 1))), some (.int (nI (ulS w i j + 1))), none, none, none, none]) dX1_tryPoint_22 (by decide) rfl rfl ?_
    refine rn_iload dX1_tryPoint_24 rfl ?_
    refine rn_iconst (v := nI 1) dX1_tryPoint_26 (by decide) ?_
    refine rn_isub dX1_tryPoint_27 ?_
    refine rn_top (pk_sub (by omega)) ?_
    refine rn_top (y := nI (ulS w i j)) (by congr 1) ?_
    refine rn_istore (ls' := [some (.ref 12), some (.ref 1), some (.ref 7), some (.int (nI i)), some (.int (nI j)), some (.int (nI (2 * w))), some (.int (nI (ulS w i j + 2 * w + 1))), some (.int (nI (ulS w i j + 1))), some (.int (nI (ulS w i j))), none, none, none]) dX1_tryPoint_28 (by decide) rfl rfl ?_
    refine rn_aload_n dX1_tryPoint_30 rfl rfl ?_
    refine rn_iload_n dX1_tryPoint_31 rfl rfl ?_
    refine rn_iload dX1_tryPoint_32 rfl ?_
    refine rn_callVq (st := []) dX1_tryPoint_34 cf_1_41 (hmA) (by decide) (sk_l hs 1 (by decide)) (sk_k1 hs) rfl rfl (Nat.le_of_ble_eq_true rfl) ?_
    refine rn_if_neN (tgt := 44) dX1_tryPoint_37 (by decide) (by omega) (fun c_37 => ?_) (fun c_37 => ?_)
    · exact absurd c_37 (by decide)
    · refine rn_iconst (v := nI 1) dX1_tryPoint_40 (by decide) ?_
      refine rn_goto (tgt := 45) dX1_tryPoint_41 (by decide) ?_
      refine rn_istore (ls' := [some (.ref 12), some (.ref 1), some (.ref 7), some (.int (nI i)), some (.int (nI j)), some (.int (nI (2 * w))), some (.int (nI (ulS w i j + 2 * w + 1))), some (.int (nI (ulS w i j + 1))), some (.int (nI (ulS w i j))), some (.int (nI 1)), none, none]) dX1_tryPoint_45 (by decide) rfl rfl ?_
      refine rn_aload_n dX1_tryPoint_47 rfl rfl ?_
      refine rn_iload dX1_tryPoint_48 rfl ?_
      refine rn_callVq (st := []) dX1_tryPoint_50 cf_1_44 (c_X2_lineThrough hs (by omega)) (by decide) (sk_l hs 7 (by decide)) (sk_k7 hs) rfl rfl (Nat.le_of_ble_eq_true rfl) ?_
      refine rn_top (y := nI (lnum w h M (ulS w i j))) ((hL.1 _ (by omega)).1) ?_
      refine rn_istore (ls' := [some (.ref 12), some (.ref 1), some (.ref 7), some (.int (nI i)), some (.int (nI j)), some (.int (nI (2 * w))), some (.int (nI (ulS w i j + 2 * w + 1))), some (.int (nI (ulS w i j + 1))), some (.int (nI (ulS w i j))), some (.int (nI 1)), some (.int (nI (lnum w h M (ulS w i j)))), none]) dX1_tryPoint_53 (by decide) rfl rfl ?_
      refine rn_aload_n dX1_tryPoint_55 rfl rfl ?_
      refine rn_iload dX1_tryPoint_56 rfl ?_
      refine rn_if_eqN (tgt := 66) dX1_tryPoint_58 (by decide) (by omega) (fun c_58 => ?_) (fun c_58 => ?_)
      · exact absurd c_58 (by decide)
      · refine rn_iload dX1_tryPoint_61 rfl ?_
        refine rn_goto (tgt := 68) dX1_tryPoint_63 (by decide) ?_
        refine rn_callVq (st := []) dX1_tryPoint_68 cf_1_44 (c_X2_lineThrough hs (by omega)) (by decide) (sk_l hs 7 (by decide)) (sk_k7 hs) rfl rfl (Nat.le_of_ble_eq_true rfl) ?_
        refine rn_top (y := nI (lnum w h M (st1 w M i j))) (by rw [(hL.1 _ (by omega)).1, hB]) ?_
        refine rn_istore (ls' := [some (.ref 12), some (.ref 1), some (.ref 7), some (.int (nI i)), some (.int (nI j)), some (.int (nI (2 * w))), some (.int (nI (ulS w i j + 2 * w + 1))), some (.int (nI (ulS w i j + 1))), some (.int (nI (ulS w i j))), some (.int (nI 1)), some (.int (nI (lnum w h M (ulS w i j)))), some (.int (nI (lnum w h M (st1 w M i j))))]) dX1_tryPoint_71 (by decide) rfl rfl ?_
        refine rn_iload dX1_tryPoint_73 rfl ?_
        refine rn_if_ltN (tgt := 93) dX1_tryPoint_75 (by omega) (by decide) ?_
        refine rn_iload dX1_tryPoint_78 rfl ?_
        refine rn_if_ltN (tgt := 93) dX1_tryPoint_80 (by omega) (by decide) ?_
        refine rn_aload_n dX1_tryPoint_83 rfl rfl ?_
        refine rn_getI dX1_tryPoint_84 fd_1_21 (sk_l hs 12 (by decide)) (sk_k12 hs) rfl ?_
        refine rn_top (y := nI n) (hn) ?_
        refine rn_sipush (v := nI 128) dX1_tryPoint_87 (by decide) ?_
        refine rn_icmp_ltN (tgt := 94) dX1_tryPoint_90 (by decide) (by omega) (by omega) (fun c_90 => ?_) (fun c_90 => ?_)
        · refine rn_aload_n dX1_tryPoint_94 rfl rfl ?_
          refine rn_getR (r := 15) dX1_tryPoint_95 fd_1_18 (sk_l hs 12 (by decide)) (sk_k12 hs) rfl (sk_r12_3 hs) ?_
          refine rn_iload dX1_tryPoint_98 rfl ?_
          refine rn_ialoadN dX1_tryPoint_100 (sk_l hs 15 (by decide)) (sk_k15 hs) (by omega) (by omega) ?_
          refine rn_aload_n dX1_tryPoint_101 rfl rfl ?_
          refine rn_getR (r := 15) dX1_tryPoint_102 fd_1_18 (sk_l hs 12 (by decide)) (sk_k12 hs) rfl (sk_r12_3 hs) ?_
          refine rn_iload dX1_tryPoint_105 rfl ?_
          refine rn_ialoadN dX1_tryPoint_107 (sk_l hs 15 (by decide)) (sk_k15 hs) (by omega) (by omega) ?_
          refine rn_icmp_eq (tgt := 160) dX1_tryPoint_108 (by decide) (fun c_108 => ?_) (fun c_108 => ?_)
          · refine rn_return dX1_tryPoint_160 rfl ?_
            exact ⟨rfl, rfl, Or.inl ⟨c_108, rfl⟩⟩
          · refine rn_aload_n dX1_tryPoint_111 rfl rfl ?_
            refine rn_aload_n dX1_tryPoint_112 rfl rfl ?_
            refine rn_getR (r := 15) dX1_tryPoint_113 fd_1_18 (sk_l hs 12 (by decide)) (sk_k12 hs) rfl (sk_r12_3 hs) ?_
            refine rn_iload dX1_tryPoint_116 rfl ?_
            refine rn_ialoadN dX1_tryPoint_118 (sk_l hs 15 (by decide)) (sk_k15 hs) (by omega) (by omega) ?_
            refine rn_aload_n dX1_tryPoint_119 rfl rfl ?_
            refine rn_getR (r := 15) dX1_tryPoint_120 fd_1_18 (sk_l hs 12 (by decide)) (sk_k12 hs) rfl (sk_r12_3 hs) ?_
            refine rn_iload dX1_tryPoint_123 rfl ?_
            refine rn_ialoadN dX1_tryPoint_125 (sk_l hs 15 (by decide)) (sk_k15 hs) (by omega) (by omega) ?_
            refine rn_callVq (st := []) dX1_tryPoint_126 cf_1_50 (c_X1_unite hs _ _) (by decide) (sk_l hs 12 (by decide)) (sk_k12 hs) rfl rfl (Nat.le_of_ble_eq_true rfl) ?_
            have hnU : (unI I (I 15 (lnum w h M (ulS w i j))) (I 15 (lnum w h M (st1 w M i j)))) 12 0 = nI n := by rw [unI_o _ _ _ (by decide)]; exact hn
            refine rn_aload_n dX1_tryPoint_129 rfl rfl ?_
            refine rn_getR (r := 13) dX1_tryPoint_130 fd_1_9 (sk_l hs 12 (by decide)) (sk_k12 hs) rfl (sk_r12_1 hs) ?_
            refine rn_aload_n dX1_tryPoint_133 rfl rfl ?_
            refine rn_getI dX1_tryPoint_134 fd_1_21 (sk_l hs 12 (by decide)) (sk_k12 hs) rfl ?_
            refine rn_top (y := nI n) (hnU) ?_
            refine rn_iload_n dX1_tryPoint_137 rfl rfl ?_
            refine rn_iastoreN dX1_tryPoint_138 (sk_l hs 13 (by decide)) (sk_k13 hs) (by omega) (by omega) ?_
            refine rn_aload_n dX1_tryPoint_139 rfl rfl ?_
            refine rn_getR (r := 14) dX1_tryPoint_140 fd_1_15 (sk_l hs 12 (by decide)) (sk_k12 hs) rfl (sk_r12_2 hs) ?_
            refine rn_aload_n dX1_tryPoint_143 rfl rfl ?_
            refine rn_getI dX1_tryPoint_144 fd_1_21 (sk_l hs 12 (by decide)) (sk_k12 hs) rfl ?_
            refine rn_top (y := nI n) (by have h9 := hnU; simp [am_up, va_up, h9]) ?_
            refine rn_iload dX1_tryPoint_147 rfl ?_
            refine rn_iastoreN dX1_tryPoint_149 (sk_l hs 14 (by decide)) (sk_k14 hs) (by omega) (by omega) ?_
            refine rn_aload_n dX1_tryPoint_150 rfl rfl ?_
            refine rn_dup dX1_tryPoint_151 rfl ?_
            refine rn_getI dX1_tryPoint_152 fd_1_21 (sk_l hs 12 (by decide)) (sk_k12 hs) rfl ?_
            refine rn_top (y := nI n) (by have h9 := hnU; simp [am_up, va_up, h9]) ?_
            refine rn_iconst (v := nI 1) dX1_tryPoint_155 (by decide) ?_
            refine rn_iadd dX1_tryPoint_156 ?_
            refine rn_top (nI_add _ _) ?_
            refine rn_putI dX1_tryPoint_157 fd_1_21 (sk_l hs 12 (by decide)) (sk_k12 hs) rfl rfl (vp_nar_int _) rfl ?_
            refine rn_return dX1_tryPoint_160 rfl ?_
            exact ⟨rfl, rfl, Or.inr ⟨c_108, rfl⟩⟩
        · omega
  · have hmA : am_Mt 1 Y_X0_mirrorAt (0, 0) [.ref 1, .int (nI i), .int (nI j)] S I (am_q (some (.int (nI (M i j)))) S I) := by
      have h9 := c_X0_mAt (sk_d1 hs) hX w8 h8 (i := i) (j := j) (by omega) (by omega)
      rw [show gv w h M i j = M i j from if_pos hin] at h9
      exact h9
    have hB : nI (lnum w h M (ulS w i j + 2 * w + 1)) = nI (lnum w h M (st1 w M i j)) := by
      unfold st1
      rcases (show M i j = 1 ∨ M i j = 2 by omega) with q | q
      · rw [if_neg (by omega), ((nb_all w1 hin).2.1 q).2]
      · rw [if_pos q, ((nb_all w1 hin).2.2 q).2]
    refine am_mt ⟨by decide +kernel, rfl⟩ (Nat.le_of_ble_eq_true rfl) rfl ?_
    refine rn_iconst (v := nI 2) dX1_tryPoint_0 (by decide) ?_
    refine rn_aload_n dX1_tryPoint_1 rfl rfl ?_
    refine rn_getI dX1_tryPoint_2 fd_1_30 (sk_l hs 1 (by decide)) (sk_k1 hs) rfl ?_
    refine rn_top (y := nI w) (hX.1) ?_
    refine rn_imul dX1_tryPoint_5 ?_
    refine rn_top (pk_mul _ _) ?_
    refine rn_istore (ls' := [some (.ref 12), some (.ref 1), some (.ref 7), some (.int (nI i)), some (.int (nI j)), some (.int (nI (2 * w))), none, none, none, none, none, none]) dX1_tryPoint_6 (by decide) rfl rfl ?_
    refine rn_iload dX1_tryPoint_8 rfl ?_
    refine rn_iload dX1_tryPoint_10 rfl ?_
    refine rn_imul dX1_tryPoint_12 ?_
    refine rn_top (pk_mul _ _) ?_
    refine rn_iload_n dX1_tryPoint_13 rfl rfl ?_
    refine rn_iadd dX1_tryPoint_14 ?_
    refine rn_top (nI_add _ _) ?_
    refine rn_top (y := nI (ulS w i j + 2 * w + 1)) (by rw [hu.2]) ?_
    refine rn_istore (ls' := [some (.ref 12), some (.ref 1), some (.ref 7), some (.int (nI i)), some (.int (nI j)), some (.int (nI (2 * w))), some (.int (nI (ulS w i j + 2 * w + 1))), none, none, none, none, none]) dX1_tryPoint_15 (by decide) rfl rfl ?_
    refine rn_iload dX1_tryPoint_17 rfl ?_
    refine rn_iload dX1_tryPoint_19 rfl ?_
    refine rn_isub dX1_tryPoint_21 ?_
    refine rn_top (pk_sub (by omega)) ?_
    refine rn_top (y := nI (ulS w i j + 1)) (by congr 1; omega) ?_
    refine rn_istore (ls' := [some (.ref 12), some (.ref 1), some (.ref 7), some (.int (nI i)), some (.int (nI j)), some (.int (nI (2 * w))), some (.int (nI (ulS w i j + 2 * w + 1))), some (.int (nI (ulS w i j + 1))), none, none, none, none]) dX1_tryPoint_22 (by decide) rfl rfl ?_
    refine rn_iload dX1_tryPoint_24 rfl ?_
    refine rn_iconst (v := nI 1) dX1_tryPoint_26 (by decide) ?_
    refine rn_isub dX1_tryPoint_27 ?_
    refine rn_top (pk_sub (by omega)) ?_
    refine rn_top (y := nI (ulS w i j)) (by congr 1) ?_
    refine rn_istore (ls' := [some (.ref 12), some (.ref 1), some (.ref 7), some (.int (nI i)), some (.int (nI j)), some (.int (nI (2 * w))), some (.int (nI (ulS w i j + 2 * w + 1))), some (.int (nI (ulS w i j + 1))), some (.int (nI (ulS w i j))), none, none, none]) dX1_tryPoint_28 (by decide) rfl rfl ?_
    refine rn_aload_n dX1_tryPoint_30 rfl rfl ?_
    refine rn_iload_n dX1_tryPoint_31 rfl rfl ?_
    refine rn_iload dX1_tryPoint_32 rfl ?_
    refine rn_callVq (st := []) dX1_tryPoint_34 cf_1_41 (hmA) (by decide) (sk_l hs 1 (by decide)) (sk_k1 hs) rfl rfl (Nat.le_of_ble_eq_true rfl) ?_
    refine rn_if_neN (tgt := 44) dX1_tryPoint_37 (by decide) (by omega) (fun c_37 => ?_) (fun c_37 => ?_)
    · refine rn_iconst (v := nI 0) dX1_tryPoint_44 (by decide) ?_
      refine rn_istore (ls' := [some (.ref 12), some (.ref 1), some (.ref 7), some (.int (nI i)), some (.int (nI j)), some (.int (nI (2 * w))), some (.int (nI (ulS w i j + 2 * w + 1))), some (.int (nI (ulS w i j + 1))), some (.int (nI (ulS w i j))), some (.int (nI 0)), none, none]) dX1_tryPoint_45 (by decide) rfl rfl ?_
      refine rn_aload_n dX1_tryPoint_47 rfl rfl ?_
      refine rn_iload dX1_tryPoint_48 rfl ?_
      refine rn_callVq (st := []) dX1_tryPoint_50 cf_1_44 (c_X2_lineThrough hs (by omega)) (by decide) (sk_l hs 7 (by decide)) (sk_k7 hs) rfl rfl (Nat.le_of_ble_eq_true rfl) ?_
      refine rn_top (y := nI (lnum w h M (ulS w i j))) ((hL.1 _ (by omega)).1) ?_
      refine rn_istore (ls' := [some (.ref 12), some (.ref 1), some (.ref 7), some (.int (nI i)), some (.int (nI j)), some (.int (nI (2 * w))), some (.int (nI (ulS w i j + 2 * w + 1))), some (.int (nI (ulS w i j + 1))), some (.int (nI (ulS w i j))), some (.int (nI 0)), some (.int (nI (lnum w h M (ulS w i j)))), none]) dX1_tryPoint_53 (by decide) rfl rfl ?_
      refine rn_aload_n dX1_tryPoint_55 rfl rfl ?_
      refine rn_iload dX1_tryPoint_56 rfl ?_
      refine rn_if_eqN (tgt := 66) dX1_tryPoint_58 (by decide) (by omega) (fun c_58 => ?_) (fun c_58 => ?_)
      · refine rn_iload dX1_tryPoint_66 rfl ?_
        refine rn_callVq (st := []) dX1_tryPoint_68 cf_1_44 (c_X2_lineThrough hs (by omega)) (by decide) (sk_l hs 7 (by decide)) (sk_k7 hs) rfl rfl (Nat.le_of_ble_eq_true rfl) ?_
        refine rn_top (y := nI (lnum w h M (st1 w M i j))) (by rw [(hL.1 _ (by omega)).1, hB]) ?_
        refine rn_istore (ls' := [some (.ref 12), some (.ref 1), some (.ref 7), some (.int (nI i)), some (.int (nI j)), some (.int (nI (2 * w))), some (.int (nI (ulS w i j + 2 * w + 1))), some (.int (nI (ulS w i j + 1))), some (.int (nI (ulS w i j))), some (.int (nI 0)), some (.int (nI (lnum w h M (ulS w i j)))), some (.int (nI (lnum w h M (st1 w M i j))))]) dX1_tryPoint_71 (by decide) rfl rfl ?_
        refine rn_iload dX1_tryPoint_73 rfl ?_
        refine rn_if_ltN (tgt := 93) dX1_tryPoint_75 (by omega) (by decide) ?_
        refine rn_iload dX1_tryPoint_78 rfl ?_
        refine rn_if_ltN (tgt := 93) dX1_tryPoint_80 (by omega) (by decide) ?_
        refine rn_aload_n dX1_tryPoint_83 rfl rfl ?_
        refine rn_getI dX1_tryPoint_84 fd_1_21 (sk_l hs 12 (by decide)) (sk_k12 hs) rfl ?_
        refine rn_top (y := nI n) (hn) ?_
        refine rn_sipush (v := nI 128) dX1_tryPoint_87 (by decide) ?_
        refine rn_icmp_ltN (tgt := 94) dX1_tryPoint_90 (by decide) (by omega) (by omega) (fun c_90 => ?_) (fun c_90 => ?_)
        · refine rn_aload_n dX1_tryPoint_94 rfl rfl ?_
          refine rn_getR (r := 15) dX1_tryPoint_95 fd_1_18 (sk_l hs 12 (by decide)) (sk_k12 hs) rfl (sk_r12_3 hs) ?_
          refine rn_iload dX1_tryPoint_98 rfl ?_
          refine rn_ialoadN dX1_tryPoint_100 (sk_l hs 15 (by decide)) (sk_k15 hs) (by omega) (by omega) ?_
          refine rn_aload_n dX1_tryPoint_101 rfl rfl ?_
          refine rn_getR (r := 15) dX1_tryPoint_102 fd_1_18 (sk_l hs 12 (by decide)) (sk_k12 hs) rfl (sk_r12_3 hs) ?_
          refine rn_iload dX1_tryPoint_105 rfl ?_
          refine rn_ialoadN dX1_tryPoint_107 (sk_l hs 15 (by decide)) (sk_k15 hs) (by omega) (by omega) ?_
          refine rn_icmp_eq (tgt := 160) dX1_tryPoint_108 (by decide) (fun c_108 => ?_) (fun c_108 => ?_)
          · refine rn_return dX1_tryPoint_160 rfl ?_
            exact ⟨rfl, rfl, Or.inl ⟨c_108, rfl⟩⟩
          · refine rn_aload_n dX1_tryPoint_111 rfl rfl ?_
            refine rn_aload_n dX1_tryPoint_112 rfl rfl ?_
            refine rn_getR (r := 15) dX1_tryPoint_113 fd_1_18 (sk_l hs 12 (by decide)) (sk_k12 hs) rfl (sk_r12_3 hs) ?_
            refine rn_iload dX1_tryPoint_116 rfl ?_
            refine rn_ialoadN dX1_tryPoint_118 (sk_l hs 15 (by decide)) (sk_k15 hs) (by omega) (by omega) ?_
            refine rn_aload_n dX1_tryPoint_119 rfl rfl ?_
            refine rn_getR (r := 15) dX1_tryPoint_120 fd_1_18 (sk_l hs 12 (by decide)) (sk_k12 hs) rfl (sk_r12_3 hs) ?_
            refine rn_iload dX1_tryPoint_123 rfl ?_
            refine rn_ialoadN dX1_tryPoint_125 (sk_l hs 15 (by decide)) (sk_k15 hs) (by omega) (by omega) ?_
            refine rn_callVq (st := []) dX1_tryPoint_126 cf_1_50 (c_X1_unite hs _ _) (by decide) (sk_l hs 12 (by decide)) (sk_k12 hs) rfl rfl (Nat.le_of_ble_eq_true rfl) ?_
            have hnU : (unI I (I 15 (lnum w h M (ulS w i j))) (I 15 (lnum w h M (st1 w M i j)))) 12 0 = nI n := by rw [unI_o _ _ _ (by decide)]; exact hn
            refine rn_aload_n dX1_tryPoint_129 rfl rfl ?_
            refine rn_getR (r := 13) dX1_tryPoint_130 fd_1_9 (sk_l hs 12 (by decide)) (sk_k12 hs) rfl (sk_r12_1 hs) ?_
            refine rn_aload_n dX1_tryPoint_133 rfl rfl ?_
            refine rn_getI dX1_tryPoint_134 fd_1_21 (sk_l hs 12 (by decide)) (sk_k12 hs) rfl ?_
            refine rn_top (y := nI n) (hnU) ?_
            refine rn_iload_n dX1_tryPoint_137 rfl rfl ?_
            refine rn_iastoreN dX1_tryPoint_138 (sk_l hs 13 (by decide)) (sk_k13 hs) (by omega) (by omega) ?_
            refine rn_aload_n dX1_tryPoint_139 rfl rfl ?_
            refine rn_getR (r := 14) dX1_tryPoint_140 fd_1_15 (sk_l hs 12 (by decide)) (sk_k12 hs) rfl (sk_r12_2 hs) ?_
            refine rn_aload_n dX1_tryPoint_143 rfl rfl ?_
            refine rn_getI dX1_tryPoint_144 fd_1_21 (sk_l hs 12 (by decide)) (sk_k12 hs) rfl ?_
            refine rn_top (y := nI n) (by have h9 := hnU; simp [am_up, va_up, h9]) ?_
            refine rn_iload dX1_tryPoint_147 rfl ?_
            refine rn_iastoreN dX1_tryPoint_149 (sk_l hs 14 (by decide)) (sk_k14 hs) (by omega) (by omega) ?_
            refine rn_aload_n dX1_tryPoint_150 rfl rfl ?_
            refine rn_dup dX1_tryPoint_151 rfl ?_
            refine rn_getI dX1_tryPoint_152 fd_1_21 (sk_l hs 12 (by decide)) (sk_k12 hs) rfl ?_
            refine rn_top (y := nI n) (by have h9 := hnU; simp [am_up, va_up, h9]) ?_
            refine rn_iconst (v := nI 1) dX1_tryPoint_155 (by decide) ?_
            refine rn_iadd dX1_tryPoint_156 ?_
            refine rn_top (nI_add _ _) ?_
            refine rn_putI dX1_tryPoint_157 fd_1_21 (sk_l hs 12 (by decide)) (sk_k12 hs) rfl rfl (vp_nar_int _) rfl ?_
            refine rn_return dX1_tryPoint_160 rfl ?_
            exact ⟨rfl, rfl, Or.inr ⟨c_108, rfl⟩⟩
        · omega
      · exact absurd c_58 (by decide)
    · exact absurd c_37 hm
