set_option maxHeartbeats 1000000 in
set_option maxRecDepth 100000 in
theorem c_X0_mirrorAt {S : am_S} {I : am_I} {a q w h : Nat} (hd : am_dr S a q) (hw : I a 0 = nI w) (hh : I a 1 = nI h) (w8 : w ≤ 8) (h8 : h ≤ 8) {i j : Nat} (hin : nInner w h i j = true) : am_Mt 1 Y_X0_mirrorAt (0, 0) [.ref a, .int (nI i), .int (nI j)] S I (am_q (some (.int (I q (8 * j + i / 2)))) S I) := by
  have hb := of_decide_eq_true hin
  refine am_mt ⟨by decide +kernel, rfl⟩ (Nat.le_of_ble_eq_true rfl) rfl ?_
  refine rn_aload_n dX0_mirrorAt_0 rfl rfl ?_
  refine rn_iload_n dX0_mirrorAt_1 rfl rfl ?_
  refine rn_iload_n dX0_mirrorAt_2 rfl rfl ?_
  refine rn_callVq (st := []) dX0_mirrorAt_3 cf_0_36 (c_X0_isInner hd hw hh w8 h8 _ _) (by decide) hd.1 hd.2.1 rfl rfl (Nat.le_of_ble_eq_true rfl) ?_
  refine rn_if_eqB (tgt := 22) dX0_mirrorAt_6 (by decide) (fun c_6 => ?_) (fun c_6 => ?_)
  · exact absurd c_6 (by rw [pInner_nI (by omega) (by omega), hin]; decide)
  · refine rn_aload_n dX0_mirrorAt_9 rfl rfl ?_
    refine rn_getR (r := q) dX0_mirrorAt_10 fd_0_18 hd.1 hd.2.1 rfl hd.2.2.1 ?_
    refine rn_iload_n dX0_mirrorAt_13 rfl rfl ?_
    refine rn_iload_n dX0_mirrorAt_14 rfl rfl ?_
    refine rn_callSNq (st := [.ref q]) dX0_mirrorAt_15 cf_0_40 (c_X7_placeOf S I (by omega)) (by decide) rfl rfl (Nat.le_of_ble_eq_true rfl) ?_
    refine rn_ialoadN dX0_mirrorAt_18 hd.2.2.2.1 hd.2.2.2.2 (by omega) (by omega) ?_
    refine rn_goto (tgt := 23) dX0_mirrorAt_19 (by decide) ?_
    refine rn_ireturn dX0_mirrorAt_23 rfl (vp_nar_int _) ?_
    exact ⟨rfl, rfl, rfl⟩
set_option maxHeartbeats 1000000 in
set_option maxRecDepth 100000 in
theorem c_X0_mirrorAt_out {S : am_S} {I : am_I} {a q w h : Nat} (hd : am_dr S a q) (hw : I a 0 = nI w) (hh : I a 1 = nI h) (w8 : w ≤ 8) (h8 : h ≤ 8) {i j : Int32} (hin : pInner w h i j = false) : am_Mt 1 Y_X0_mirrorAt (0, 0) [.ref a, .int i, .int j] S I (am_q (some (.int (nI 0))) S I) := by
  refine am_mt ⟨by decide +kernel, rfl⟩ (Nat.le_of_ble_eq_true rfl) rfl ?_
  refine rn_aload_n dX0_mirrorAt_0 rfl rfl ?_
  refine rn_iload_n dX0_mirrorAt_1 rfl rfl ?_
  refine rn_iload_n dX0_mirrorAt_2 rfl rfl ?_
  refine rn_callVq (st := []) dX0_mirrorAt_3 cf_0_36 (c_X0_isInner hd hw hh w8 h8 _ _) (by decide) hd.1 hd.2.1 rfl rfl (Nat.le_of_ble_eq_true rfl) ?_
  refine rn_if_eqB (tgt := 22) dX0_mirrorAt_6 (by decide) (fun c_6 => ?_) (fun c_6 => ?_)
  · refine rn_iconst (v := nI 0) dX0_mirrorAt_22 (by decide) ?_
    refine rn_ireturn dX0_mirrorAt_23 rfl (vp_nar_int _) ?_
    exact ⟨rfl, rfl, rfl⟩
  · exact absurd c_6 (by rw [hin]; decide)
set_option maxHeartbeats 1000000 in
set_option maxRecDepth 100000 in
theorem c_X0_put {S : am_S} {I : am_I} {a q w h : Nat} (hd : am_dr S a q) (hw : I a 0 = nI w) (hh : I a 1 = nI h) (w8 : w ≤ 8) (h8 : h ≤ 8) {i j : Nat} (hin : nInner w h i j = true) (v : Int32) : am_Mt 1 Y_X0_put (0, 0) [.ref a, .int (nI i), .int (nI j), .int v] S I (am_q none S (am_up I q (8 * j + i / 2) v)) := by
  have hb := of_decide_eq_true hin
  refine am_mt ⟨by decide +kernel, rfl⟩ (Nat.le_of_ble_eq_true rfl) rfl ?_
  refine rn_aload_n dX0_put_0 rfl rfl ?_
  refine rn_iload_n dX0_put_1 rfl rfl ?_
  refine rn_iload_n dX0_put_2 rfl rfl ?_
  refine rn_callVq (st := []) dX0_put_3 cf_0_36 (c_X0_isInner hd hw hh w8 h8 _ _) (by decide) hd.1 hd.2.1 rfl rfl (Nat.le_of_ble_eq_true rfl) ?_
  refine rn_if_eqB (tgt := 20) dX0_put_6 (by decide) (fun c_6 => ?_) (fun c_6 => ?_)
  · exact absurd c_6 (by rw [pInner_nI (by omega) (by omega), hin]; decide)
  · refine rn_aload_n dX0_put_9 rfl rfl ?_
    refine rn_getR (r := q) dX0_put_10 fd_0_18 hd.1 hd.2.1 rfl hd.2.2.1 ?_
    refine rn_iload_n dX0_put_13 rfl rfl ?_
    refine rn_iload_n dX0_put_14 rfl rfl ?_
    refine rn_callSNq (st := [.ref q]) dX0_put_15 cf_0_40 (c_X7_placeOf S I (by omega)) (by decide) rfl rfl (Nat.le_of_ble_eq_true rfl) ?_
    refine rn_iload_n dX0_put_18 rfl rfl ?_
    refine rn_iastoreN dX0_put_19 hd.2.2.2.1 hd.2.2.2.2 (by omega) (by omega) ?_
    refine rn_return dX0_put_20 rfl ?_
    exact ⟨rfl, rfl, rfl⟩
set_option maxHeartbeats 1000000 in
set_option maxRecDepth 100000 in
theorem c_X0_clear {S : am_S} {I : am_I} {a q w h : Nat} (hd : am_dr S a q) (w1 : 1 ≤ w) (w8 : w ≤ 8) (h1 : 1 ≤ h) (h8 : h ≤ 8) : am_Mt 1 Y_X0_clear (0, 0) [.ref a, .int (nI w), .int (nI h)] S I (am_q none S (dr_clr I a q w h)) := by
  have ew := z_nI (n := w) (by omega)
  have eh := z_nI (n := h) (by omega)
  refine am_mt ⟨by decide +kernel, rfl⟩ (Nat.le_of_ble_eq_true rfl) rfl ?_
  refine rn_iload_n dX0_clear_0 rfl rfl ?_
  refine rn_callSNq (st := []) dX0_clear_1 cf_0_22 (c_X7_isDots S I _) (by decide) rfl rfl (Nat.le_of_ble_eq_true rfl) ?_
  refine rn_if_eqB (tgt := 24) dX0_clear_4 (by decide) (fun c_4 => ?_) (fun c_4 => ?_)
  · exact absurd c_4 (by rw [ew]; simp; omega)
  · refine rn_iload_n dX0_clear_7 rfl rfl ?_
    refine rn_callSNq (st := []) dX0_clear_8 cf_0_22 (c_X7_isDots S I _) (by decide) rfl rfl (Nat.le_of_ble_eq_true rfl) ?_
    refine rn_if_eqB (tgt := 24) dX0_clear_11 (by decide) (fun c_11 => ?_) (fun c_11 => ?_)
    · exact absurd c_11 (by rw [eh]; simp; omega)
    · refine rn_aload_n dX0_clear_14 rfl rfl ?_
      refine rn_iload_n dX0_clear_15 rfl rfl ?_
      refine rn_putI dX0_clear_16 fd_0_9 hd.1 hd.2.1 rfl rfl (vp_nar_int _) rfl ?_
      refine rn_aload_n dX0_clear_19 rfl rfl ?_
      refine rn_iload_n dX0_clear_20 rfl rfl ?_
      refine rn_putI dX0_clear_21 fd_0_15 hd.1 hd.2.1 rfl rfl (vp_nar_int _) rfl ?_
      refine rn_aload_n dX0_clear_24 rfl rfl ?_
      refine rn_getR (r := q) dX0_clear_25 fd_0_18 hd.1 hd.2.1 rfl hd.2.2.1 ?_
      refine rn_iconst (v := nI 0) dX0_clear_28 (by decide) ?_
      refine rn_callSq (st := []) dX0_clear_29 cf_0_26 (c_J7_fill S (am_up (am_up I a 0 (nI w)) a 1 (nI h)) (nI 0) hd.2.2.2.1 hd.2.2.2.2 (by omega)) (by decide) rfl rfl (Nat.le_of_ble_eq_true rfl) ?_
      refine rn_return dX0_clear_32 rfl ?_
      exact ⟨rfl, rfl, rfl⟩
set_option maxHeartbeats 1000000 in
set_option maxRecDepth 100000 in
theorem c_X0_copy {S : am_S} {I : am_I} {a q a0 q0 w h : Nat} (hd : am_dr S a q) (hd0 : am_dr S a0 q0) (hne : a0 ≠ a) (hw : I a0 0 = nI w) (hh : I a0 1 = nI h) : am_Mt 1 Y_X0_copy (0, 0) [.ref a, .ref a0] S I (am_q none S (dr_cpy I a q a0 q0 w h)) := by
  refine am_mt ⟨by decide +kernel, rfl⟩ (Nat.le_of_ble_eq_true rfl) rfl ?_
  refine rn_aload_n dX0_copy_0 rfl rfl ?_
  refine rn_aload_n dX0_copy_1 rfl rfl ?_
  refine rn_getI dX0_copy_2 fd_0_9 hd0.1 hd0.2.1 rfl ?_
  refine rn_top (y := nI w) (hw) ?_
  refine rn_putI dX0_copy_5 fd_0_9 hd.1 hd.2.1 rfl rfl (vp_nar_int _) rfl ?_
  refine rn_aload_n dX0_copy_8 rfl rfl ?_
  refine rn_aload_n dX0_copy_9 rfl rfl ?_
  refine rn_getI dX0_copy_10 fd_0_15 hd0.1 hd0.2.1 rfl ?_
  refine rn_top (y := nI h) ((by rw [am_up_a _ _ hne]; exact hh)) ?_
  refine rn_putI dX0_copy_13 fd_0_15 hd.1 hd.2.1 rfl rfl (vp_nar_int _) rfl ?_
  refine rn_aload_n dX0_copy_16 rfl rfl ?_
  refine rn_getR (r := q0) dX0_copy_17 fd_0_18 hd0.1 hd0.2.1 rfl hd0.2.2.1 ?_
  refine rn_iconst (v := nI 0) dX0_copy_20 (by decide) ?_
  refine rn_aload_n dX0_copy_21 rfl rfl ?_
  refine rn_getR (r := q) dX0_copy_22 fd_0_18 hd.1 hd.2.1 rfl hd.2.2.1 ?_
  refine rn_iconst (v := nI 0) dX0_copy_25 (by decide) ?_
  refine rn_sipush (v := nI 128) dX0_copy_26 (by decide) ?_
  refine rn_copyN dX0_copy_29 ay_0_44 hd0.2.2.2.1 hd.2.2.2.1 hd0.2.2.2.2 hd.2.2.2.2 (by omega) (by omega) (by omega) (by omega) (by omega) (by decide) (Nat.le_of_ble_eq_true rfl) ?_
  refine rn_return dX0_copy_32 rfl ?_
  exact ⟨rfl, rfl, rfl⟩
set_option maxHeartbeats 1000000 in
set_option maxRecDepth 100000 in
theorem c_X0_isSameAs {S : am_S} {I : am_I} {a q w h : Nat} (hd : am_dr S a q) (hw : I a 0 = nI w) (hh : I a 1 = nI h) (w8 : w ≤ 8) (h8 : h ≤ 8) {a0 q0 w0 h0 : Nat} (hd0 : am_dr S a0 q0) (hw0 : I a0 0 = nI w0) (hh0 : I a0 1 = nI h0) (w08 : w0 ≤ 8) (h08 : h0 ≤ 8) : am_Mt 0 Y_X0_isSameAs (0, 0) [.ref a, .ref a0] S I (am_q (some (.int (am_b (pb (w = w0 ∧ h = h0 ∧ ∀ p, p < 128 → I q p = I q0 p))))) S I) := by
  have L : w = w0 → h = h0 → ∀ k, k ≤ 128 → (∀ p, p < k → I q p = I q0 p) → am_Rn 0 Y_X0_isSameAs (0, 0) 26 [some (.ref a), some (.ref a0), some (.int (nI k))] [] S I (am_q (some (.int (am_b (pb (w = w0 ∧ h = h0 ∧ ∀ p, p < 128 → I q p = I q0 p))))) S I) := by
    intro ew eh
    refine am_loop 128 (fun k hk8 ih hk => ?_)
    refine rn_iload_n dX0_isSameAs_26 rfl rfl ?_
    refine rn_sipush (v := nI 128) dX0_isSameAs_27 (by decide) ?_
    refine rn_icmp_geN (tgt := 56) dX0_isSameAs_30 (by decide) (by omega) (by omega) (fun c_30 => ?_) (fun c_30 => ?_)
    · refine rn_iconst (v := nI 1) dX0_isSameAs_56 (by decide) ?_
      refine rn_ireturn dX0_isSameAs_57 rfl (by decide) ?_
      exact ⟨by rw [am_b_t (pb_t ⟨ew, eh, fun p hp => hk p (by omega)⟩)]; rfl, rfl, rfl⟩
    · refine rn_aload_n dX0_isSameAs_33 rfl rfl ?_
      refine rn_getR (r := q) dX0_isSameAs_34 fd_0_18 hd.1 hd.2.1 rfl hd.2.2.1 ?_
      refine rn_iload_n dX0_isSameAs_37 rfl rfl ?_
      refine rn_ialoadN dX0_isSameAs_38 hd.2.2.2.1 hd.2.2.2.2 (by omega) (by omega) ?_
      refine rn_aload_n dX0_isSameAs_39 rfl rfl ?_
      refine rn_getR (r := q0) dX0_isSameAs_40 fd_0_18 hd0.1 hd0.2.1 rfl hd0.2.2.1 ?_
      refine rn_iload_n dX0_isSameAs_43 rfl rfl ?_
      refine rn_ialoadN dX0_isSameAs_44 hd0.2.2.2.1 hd0.2.2.2.2 (by omega) (by omega) ?_
      refine rn_icmp_eq (tgt := 50) dX0_isSameAs_45 (by decide) (fun c_45 => ?_) (fun c_45 => ?_)
      · refine rn_iinc (v := nI (k + 1)) (ls' := [some (.ref a), some (.ref a0), some (.int (nI (k + 1)))]) dX0_isSameAs_50 rfl (nI_add _ 1) (by decide) rfl rfl ?_
        refine rn_goto (tgt := 26) dX0_isSameAs_53 (by decide) ?_
        exact ih (by omega) (lt_s hk ‹I q k = I q0 k›)
      · refine rn_iconst (v := nI 0) dX0_isSameAs_48 (by decide) ?_
        refine rn_ireturn dX0_isSameAs_49 rfl (by decide) ?_
        exact ⟨by rw [am_b_f (pb_f (fun hh9 => by first | exact (‹w ≠ w0› hh9.1) | exact (‹h ≠ h0› hh9.2.1) | exact (‹¬ I q k = I q0 k› (hh9.2.2 k (by omega)))))]; rfl, rfl, rfl⟩
  refine am_mt ⟨by decide +kernel, rfl⟩ (Nat.le_of_ble_eq_true rfl) rfl ?_
  refine rn_aload_n dX0_isSameAs_0 rfl rfl ?_
  refine rn_getI dX0_isSameAs_1 fd_0_9 hd.1 hd.2.1 rfl ?_
  refine rn_top (y := nI w) (hw) ?_
  refine rn_aload_n dX0_isSameAs_4 rfl rfl ?_
  refine rn_getI dX0_isSameAs_5 fd_0_9 hd0.1 hd0.2.1 rfl ?_
  refine rn_top (y := nI w0) (hw0) ?_
  refine rn_icmp_neN (tgt := 22) dX0_isSameAs_8 (by decide) (by omega) (by omega) (fun c_8 => ?_) (fun c_8 => ?_)
  · refine rn_iconst (v := nI 0) dX0_isSameAs_22 (by decide) ?_
    refine rn_ireturn dX0_isSameAs_23 rfl (by decide) ?_
    exact ⟨by rw [am_b_f (pb_f (fun hh9 => by first | exact (‹w ≠ w0› hh9.1) | exact (‹h ≠ h0› hh9.2.1) | exact (‹¬ I q k = I q0 k› (hh9.2.2 k (by omega)))))]; rfl, rfl, rfl⟩
  · refine rn_aload_n dX0_isSameAs_11 rfl rfl ?_
    refine rn_getI dX0_isSameAs_12 fd_0_15 hd.1 hd.2.1 rfl ?_
    refine rn_top (y := nI h) (hh) ?_
    refine rn_aload_n dX0_isSameAs_15 rfl rfl ?_
    refine rn_getI dX0_isSameAs_16 fd_0_15 hd0.1 hd0.2.1 rfl ?_
    refine rn_top (y := nI h0) (hh0) ?_
    refine rn_icmp_eqN (tgt := 24) dX0_isSameAs_19 (by decide) (by omega) (by omega) (fun c_19 => ?_) (fun c_19 => ?_)
    · refine rn_iconst (v := nI 0) dX0_isSameAs_24 (by decide) ?_
      refine rn_istore_n (ls' := [some (.ref a), some (.ref a0), some (.int (nI 0))]) dX0_isSameAs_25 rfl (by decide) rfl rfl ?_
      exact L ‹w = w0› ‹h = h0› 0 (by omega) (fun p hp => absurd hp (by omega))
    · refine rn_iconst (v := nI 0) dX0_isSameAs_22 (by decide) ?_
      refine rn_ireturn dX0_isSameAs_23 rfl (by decide) ?_
      exact ⟨by rw [am_b_f (pb_f (fun hh9 => by first | exact (‹w ≠ w0› hh9.1) | exact (‹h ≠ h0› hh9.2.1) | exact (‹¬ I q k = I q0 k› (hh9.2.2 k (by omega)))))]; rfl, rfl, rfl⟩
set_option maxHeartbeats 1000000 in
set_option maxRecDepth 100000 in
theorem c_X0_countOf {S : am_S} {I : am_I} {a q : Nat} (hd : am_dr S a q) (v : Int32) : am_Mt 0 Y_X0_countOf (0, 0) [.ref a, .int v] S I (am_q (some (.int (nI (cntV (I q) v 128)))) S I) := by
  have L : ∀ k, k ≤ 128 → am_Rn 0 Y_X0_countOf (0, 0) 14 [some (.ref a), some (.int v), some (.int (nI (cntV (I q) v k))), some (.ref q), some (.int (nI 128)), some (.int (nI k)), none] [] S I (am_q (some (.int (nI (cntV (I q) v 128)))) S I) := by
    refine am_loop 128 (fun k hk8 ih => ?_)
    refine rn_iload dX0_countOf_14 rfl ?_
    refine rn_iload dX0_countOf_16 rfl ?_
    refine rn_icmp_geN (tgt := 47) dX0_countOf_18 (by decide) (by omega) (by omega) (fun c_18 => ?_) (fun c_18 => ?_)
    · refine rn_iload_n dX0_countOf_47 rfl rfl ?_
      refine rn_ireturn dX0_countOf_48 rfl (vp_nar_int _) ?_
      obtain rfl : k = 128 := by omega
      exact ⟨rfl, rfl, rfl⟩
    · refine rn_aload_n dX0_countOf_21 rfl rfl ?_
      refine rn_iload dX0_countOf_22 rfl ?_
      refine rn_ialoadN dX0_countOf_24 hd.2.2.2.1 hd.2.2.2.2 (by omega) (by omega) ?_
      refine rn_istore (ls' := [some (.ref a), some (.int v), some (.int (nI (cntV (I q) v k))), some (.ref q), some (.int (nI 128)), some (.int (nI k)), some (.int (I q k))]) dX0_countOf_25 (by decide) rfl rfl ?_
      refine rn_iload_n dX0_countOf_27 rfl rfl ?_
      refine rn_iload dX0_countOf_28 rfl ?_
      refine rn_iload_n dX0_countOf_30 rfl rfl ?_
      refine rn_icmp_ne (tgt := 38) dX0_countOf_31 (by decide) (fun c_31 => ?_) (fun c_31 => ?_)
      · refine rn_iconst (v := nI 0) dX0_countOf_38 (by decide) ?_
        refine rn_iadd dX0_countOf_39 ?_
        refine rn_top (nI_add _ _) ?_
        refine rn_istore_n (ls' := [some (.ref a), some (.int v), some (.int (nI ((cntV (I q) v k) + 0))), some (.ref q), some (.int (nI 128)), some (.int (nI k)), some (.int (I q k))]) dX0_countOf_40 rfl (by decide) rfl rfl ?_
        refine rn_iinc (v := nI (k + 1)) (ls' := [some (.ref a), some (.int v), some (.int (nI ((cntV (I q) v k) + 0))), some (.ref q), some (.int (nI 128)), some (.int (nI (k + 1))), some (.int (I q k))]) dX0_countOf_41 rfl (nI_add _ 1) (by decide) rfl rfl ?_
        refine rn_goto (tgt := 14) dX0_countOf_44 (by decide) ?_
        refine rn_ls (ls' := [some (.ref a), some (.int v), some (.int (nI ((cntV (I q) v k) + 0))), some (.ref q), some (.int (nI 128)), some (.int (nI (k + 1))), none]) rfl (fun i x h => by rcases i with _ | _ | _ | _ | _ | _ | _ | i <;> first | exact h | (simp at h)) ?_
        rw [show (cntV (I q) v k) + 0 = cntV (I q) v (k + 1) from (by simp [cntV, c_31])]
        exact ih (by omega)
      · refine rn_iconst (v := nI 1) dX0_countOf_34 (by decide) ?_
        refine rn_goto (tgt := 39) dX0_countOf_35 (by decide) ?_
        refine rn_iadd dX0_countOf_39 ?_
        refine rn_top (nI_add _ _) ?_
        refine rn_istore_n (ls' := [some (.ref a), some (.int v), some (.int (nI ((cntV (I q) v k) + 1))), some (.ref q), some (.int (nI 128)), some (.int (nI k)), some (.int (I q k))]) dX0_countOf_40 rfl (by decide) rfl rfl ?_
        refine rn_iinc (v := nI (k + 1)) (ls' := [some (.ref a), some (.int v), some (.int (nI ((cntV (I q) v k) + 1))), some (.ref q), some (.int (nI 128)), some (.int (nI (k + 1))), some (.int (I q k))]) dX0_countOf_41 rfl (nI_add _ 1) (by decide) rfl rfl ?_
        refine rn_goto (tgt := 14) dX0_countOf_44 (by decide) ?_
        refine rn_ls (ls' := [some (.ref a), some (.int v), some (.int (nI ((cntV (I q) v k) + 1))), some (.ref q), some (.int (nI 128)), some (.int (nI (k + 1))), none]) rfl (fun i x h => by rcases i with _ | _ | _ | _ | _ | _ | _ | i <;> first | exact h | (simp at h)) ?_
        rw [show (cntV (I q) v k) + 1 = cntV (I q) v (k + 1) from (by simp [cntV, c_31])]
        exact ih (by omega)
  refine am_mt ⟨by decide +kernel, rfl⟩ (Nat.le_of_ble_eq_true rfl) rfl ?_
  refine rn_iconst (v := nI 0) dX0_countOf_0 (by decide) ?_
  refine rn_istore_n (ls' := [some (.ref a), some (.int v), some (.int (nI 0)), none, none, none, none]) dX0_countOf_1 rfl (by decide) rfl rfl ?_
  refine rn_aload_n dX0_countOf_2 rfl rfl ?_
  refine rn_getR (r := q) dX0_countOf_3 fd_0_18 hd.1 hd.2.1 rfl hd.2.2.1 ?_
  refine rn_astore_n (ls' := [some (.ref a), some (.int v), some (.int (nI 0)), some (.ref q), none, none, none]) dX0_countOf_6 rfl (by decide) rfl rfl ?_
  refine rn_aload_n dX0_countOf_7 rfl rfl ?_
  refine rn_alen dX0_countOf_8 hd.2.2.2.1 hd.2.2.2.2 (by decide) ?_
  refine rn_istore (ls' := [some (.ref a), some (.int v), some (.int (nI 0)), some (.ref q), some (.int (nI 128)), none, none]) dX0_countOf_9 (by decide) rfl rfl ?_
  refine rn_iconst (v := nI 0) dX0_countOf_11 (by decide) ?_
  refine rn_istore (ls' := [some (.ref a), some (.int v), some (.int (nI 0)), some (.ref q), some (.int (nI 128)), some (.int (nI 0)), none]) dX0_countOf_12 (by decide) rfl rfl ?_
  exact L 0 (by omega)
