section NUL
variable {d : Nat} {Y : am_Y} {b : Nat × Nat} {pc : Nat} {ls : List (Option Value)} {st : List Value} {S : am_S} {I : am_I} {Q : Option Value → am_S → am_I → Prop}
theorem rn_aloadN {i : Nat} (hdg : decode Y.2.2.1 pc = .ok (.aload i, 2)) (hl : ls[i]? = some (some .null)) (k : am_Rn d Y b (pc + 2) ls (.null :: st) S I Q) : am_Rn d Y b pc ls (st) S I Q := by
  intro g p l e R s m args below meth c H locs cells slots mc ms cl C L
  exact lv_aloadN C.1.1 C.1.2.1 hdg (L.at hl) (k g p l e R s m args below meth c H locs cells slots mc ms cl C L)
theorem rn_astoreN {i : Nat} {ls' : List (Option Value)} (hdg : decode Y.2.2.1 pc = .ok (.astore i, 2)) (hn : i < Y.2.2.2.2) (hc : am_ok1 ls i = true) (hs : ls.set i (some (.null)) = ls') (k : am_Rn d Y b (pc + 2) ls' st S I Q) : am_Rn d Y b pc ls (.null :: st) S I Q := by
  intro g p l e R s m args below meth c H locs cells slots mc ms cl C L
  obtain ⟨h0, lv, h1, h2⟩ := L
  subst hs
  exact lv_astoreN C.1.1 C.1.2.1 hdg h1 hn rfl (fun cl' h' => k g p l e R s m args below meth c H locs cells slots mc ms cl' C ⟨by simpa using h0, _, h', am_c1 h2 (am_ok1_spec hc)⟩)
end NUL
set_option maxHeartbeats 1000000 in
set_option maxRecDepth 100000 in
theorem c_X7_set_y {S : am_S} (hs : sk S) {I : am_I} {w h : Nat} (w1 : 1 ≤ w) (w8 : w ≤ 8) (h1 : 1 ≤ h) (h8 : h ≤ 8) {M : Nat → Nat → Nat} (hD : isDr I 1 2 w h M) {i j : Nat} (hin : nInner w h i j = true) {v : Nat} (hv : v ≤ 2) : am_Mt 2 Y_X7_set (0, 0) [.ref 0, .int (nI i), .int (nI j), .int (nI v)] S I (am_q (some (.int (nI 1))) S (am_up (am_up (am_up I 2 (8 * j + i / 2) (nI v)) 0 9 (nI 0)) 0 10 (nI 0))) := by
  have hpi : pInner w h (nI i) (nI j) = true := by rw [pInner_nI (by have := nIn.mp hin; omega) (by have := nIn.mp hin; omega)]; exact hin
  refine am_mt ⟨by decide +kernel, rfl⟩ (Nat.le_of_ble_eq_true rfl) rfl ?_
  refine rn_aload_n dX7_set_0 rfl rfl ?_
  refine rn_getR (r := 1) dX7_set_1 fd_7_10 (sk_l hs 0 (by decide)) (sk_k0 hs) rfl (sk_r0_0 hs) ?_
  refine rn_iload_n dX7_set_4 rfl rfl ?_
  refine rn_iload_n dX7_set_5 rfl rfl ?_
  refine rn_callVq (st := []) dX7_set_6 cf_7_86 (c_X0_isInner (sk_d1 hs) hD.1 hD.2.1 w8 h8 _ _) (by omega) (sk_d1 hs).1 (sk_d1 hs).2.1 rfl rfl (Nat.le_of_ble_eq_true rfl) ?_
  refine rn_if_eqB (tgt := 21) dX7_set_9 (by decide) (fun c_9 => ?_) (fun c_9 => ?_)
  · exact absurd hpi (by rw [c_9]; decide)
  · refine rn_iload_n dX7_set_12 rfl rfl ?_
    refine rn_if_ltN (tgt := 21) dX7_set_13 (by omega) (by decide) ?_
    refine rn_iload_n dX7_set_16 rfl rfl ?_
    refine rn_iconst (v := nI 2) dX7_set_17 (by decide) ?_
    refine rn_icmp_leN (tgt := 23) dX7_set_18 (by decide) (by omega) (by omega) (fun c_18 => ?_) (fun c_18 => ?_)
    · refine rn_aload_n dX7_set_23 rfl rfl ?_
      refine rn_getR (r := 1) dX7_set_24 fd_7_10 (sk_l hs 0 (by decide)) (sk_k0 hs) rfl (sk_r0_0 hs) ?_
      refine rn_iload_n dX7_set_27 rfl rfl ?_
      refine rn_iload_n dX7_set_28 rfl rfl ?_
      refine rn_iload_n dX7_set_29 rfl rfl ?_
      refine rn_callVq (st := []) dX7_set_30 cf_7_90 (c_X0_put (sk_d1 hs) hD.1 hD.2.1 w8 h8 hin _) (by omega) (sk_d1 hs).1 (sk_d1 hs).2.1 rfl rfl (Nat.le_of_ble_eq_true rfl) ?_
      refine rn_aload_n dX7_set_33 rfl rfl ?_
      refine rn_callVq (st := []) dX7_set_34 cf_7_94 (c_X7_forgetLines hs) (by omega) (sk_l hs 0 (by decide)) (sk_k0 hs) rfl rfl (Nat.le_of_ble_eq_true rfl) ?_
      refine rn_iconst (v := nI 1) dX7_set_37 (by decide) ?_
      refine rn_ireturn dX7_set_38 rfl (by decide) ?_
      exact ⟨rfl, rfl, rfl⟩
    · omega
set_option maxHeartbeats 1000000 in
set_option maxRecDepth 100000 in
theorem c_X7_set_n {S : am_S} (hs : sk S) {I : am_I} {w h : Nat} (w1 : 1 ≤ w) (w8 : w ≤ 8) (h1 : 1 ≤ h) (h8 : h ≤ 8) {M : Nat → Nat → Nat} (hD : isDr I 1 2 w h M) {x y v : Int32} (hn : ¬ (pInner w h x y = true ∧ 0 ≤ v.toInt ∧ v.toInt ≤ 2)) : am_Mt 2 Y_X7_set (0, 0) [.ref 0, .int x, .int y, .int v] S I (am_q (some (.int (nI 0))) S I) := by
  refine am_mt ⟨by decide +kernel, rfl⟩ (Nat.le_of_ble_eq_true rfl) rfl ?_
  refine rn_aload_n dX7_set_0 rfl rfl ?_
  refine rn_getR (r := 1) dX7_set_1 fd_7_10 (sk_l hs 0 (by decide)) (sk_k0 hs) rfl (sk_r0_0 hs) ?_
  refine rn_iload_n dX7_set_4 rfl rfl ?_
  refine rn_iload_n dX7_set_5 rfl rfl ?_
  refine rn_callVq (st := []) dX7_set_6 cf_7_86 (c_X0_isInner (sk_d1 hs) hD.1 hD.2.1 w8 h8 _ _) (by omega) (sk_d1 hs).1 (sk_d1 hs).2.1 rfl rfl (Nat.le_of_ble_eq_true rfl) ?_
  refine rn_if_eqB (tgt := 21) dX7_set_9 (by decide) (fun c_9 => ?_) (fun c_9 => ?_)
  · refine rn_iconst (v := nI 0) dX7_set_21 (by decide) ?_
    refine rn_ireturn dX7_set_22 rfl (by decide) ?_
    exact ⟨rfl, rfl, rfl⟩
  · refine rn_iload_n dX7_set_12 rfl rfl ?_
    refine rn_if_lt (tgt := 21) dX7_set_13 (by decide) (fun c_13 => ?_) (fun c_13 => ?_)
    · refine rn_iconst (v := nI 0) dX7_set_21 (by decide) ?_
      refine rn_ireturn dX7_set_22 rfl (by decide) ?_
      exact ⟨rfl, rfl, rfl⟩
    · refine rn_iload_n dX7_set_16 rfl rfl ?_
      refine rn_iconst (v := nI 2) dX7_set_17 (by decide) ?_
      refine rn_icmp_le (tgt := 23) dX7_set_18 (by decide) (fun c_18 => ?_) (fun c_18 => ?_)
      · exact absurd (And.intro c_9 (by simp only [z_lt, z_le, z_0, z_2, show (nI 2).toInt = 2 by decide] at *; omega)) hn
      · refine rn_iconst (v := nI 0) dX7_set_21 (by decide) ?_
        refine rn_ireturn dX7_set_22 rfl (by decide) ?_
        exact ⟨rfl, rfl, rfl⟩
set_option maxHeartbeats 1000000 in
set_option maxRecDepth 100000 in
theorem c_X7_mirror_y {S : am_S} (hs : sk S) {I : am_I} {w h : Nat} (w1 : 1 ≤ w) (w8 : w ≤ 8) (h1 : 1 ≤ h) (h8 : h ≤ 8) {M : Nat → Nat → Nat} (hD : isDr I 1 2 w h M) {i j : Nat} (hin : nInner w h i j = true) : am_Mt 2 Y_X7_mirror (0, 0) [.ref 0, .int (nI i), .int (nI j)] S I (am_q (some (.int (nI (M i j)))) S I) := by
  have hpi : pInner w h (nI i) (nI j) = true := by rw [pInner_nI (by have := nIn.mp hin; omega) (by have := nIn.mp hin; omega)]; exact hin
  refine am_mt ⟨by decide +kernel, rfl⟩ (Nat.le_of_ble_eq_true rfl) rfl ?_
  refine rn_aload_n dX7_mirror_0 rfl rfl ?_
  refine rn_getR (r := 1) dX7_mirror_1 fd_7_10 (sk_l hs 0 (by decide)) (sk_k0 hs) rfl (sk_r0_0 hs) ?_
  refine rn_iload_n dX7_mirror_4 rfl rfl ?_
  refine rn_iload_n dX7_mirror_5 rfl rfl ?_
  refine rn_callVq (st := []) dX7_mirror_6 cf_7_86 (c_X0_isInner (sk_d1 hs) hD.1 hD.2.1 w8 h8 _ _) (by omega) (sk_d1 hs).1 (sk_d1 hs).2.1 rfl rfl (Nat.le_of_ble_eq_true rfl) ?_
  refine rn_if_eqB (tgt := 24) dX7_mirror_9 (by decide) (fun c_9 => ?_) (fun c_9 => ?_)
  · exact absurd hpi (by rw [c_9]; decide)
  · refine rn_aload_n dX7_mirror_12 rfl rfl ?_
    refine rn_getR (r := 1) dX7_mirror_13 fd_7_10 (sk_l hs 0 (by decide)) (sk_k0 hs) rfl (sk_r0_0 hs) ?_
    refine rn_iload_n dX7_mirror_16 rfl rfl ?_
    refine rn_iload_n dX7_mirror_17 rfl rfl ?_
    refine rn_callVq (st := []) dX7_mirror_18 cf_7_97 (c_X0_mirrorAt (sk_d1 hs) hD.1 hD.2.1 w8 h8 hin) (by omega) (sk_d1 hs).1 (sk_d1 hs).2.1 rfl rfl (Nat.le_of_ble_eq_true rfl) ?_
    refine rn_goto (tgt := 25) dX7_mirror_21 (by decide) ?_
    refine rn_ireturn dX7_mirror_25 rfl (vp_nar_int _) ?_
    exact ⟨by rw [hD.at w8 h8 hin], rfl, rfl⟩
set_option maxHeartbeats 1000000 in
set_option maxRecDepth 100000 in
theorem c_X7_mirror_n {S : am_S} (hs : sk S) {I : am_I} {w h : Nat} (w1 : 1 ≤ w) (w8 : w ≤ 8) (h1 : 1 ≤ h) (h8 : h ≤ 8) {M : Nat → Nat → Nat} (hD : isDr I 1 2 w h M) {x y : Int32} (hn : pInner w h x y = false) : am_Mt 2 Y_X7_mirror (0, 0) [.ref 0, .int x, .int y] S I (am_q (some (.int (-1))) S I) := by
  refine am_mt ⟨by decide +kernel, rfl⟩ (Nat.le_of_ble_eq_true rfl) rfl ?_
  refine rn_aload_n dX7_mirror_0 rfl rfl ?_
  refine rn_getR (r := 1) dX7_mirror_1 fd_7_10 (sk_l hs 0 (by decide)) (sk_k0 hs) rfl (sk_r0_0 hs) ?_
  refine rn_iload_n dX7_mirror_4 rfl rfl ?_
  refine rn_iload_n dX7_mirror_5 rfl rfl ?_
  refine rn_callVq (st := []) dX7_mirror_6 cf_7_86 (c_X0_isInner (sk_d1 hs) hD.1 hD.2.1 w8 h8 _ _) (by omega) (sk_d1 hs).1 (sk_d1 hs).2.1 rfl rfl (Nat.le_of_ble_eq_true rfl) ?_
  refine rn_if_eqB (tgt := 24) dX7_mirror_9 (by decide) (fun c_9 => ?_) (fun c_9 => ?_)
  · refine rn_iconst (v := (-1)) dX7_mirror_24 (by decide) ?_
    refine rn_ireturn dX7_mirror_25 rfl (vp_nar_int _) ?_
    exact ⟨rfl, rfl, rfl⟩
  · exact absurd c_9 (by rw [hn]; decide)
set_option maxHeartbeats 1000000 in
set_option maxRecDepth 100000 in
theorem c_X7_pin_y0 {S : am_S} (hs : sk S) {I : am_I} {w h : Nat} (w1 : 1 ≤ w) (w8 : w ≤ 8) (h1 : 1 ≤ h) (h8 : h ≤ 8) {M : Nat → Nat → Nat} (hD : isDr I 1 2 w h M) {i j : Nat} (hin : nInner w h i j = true) : am_Mt 2 Y_X7_pin (0, 0) [.ref 0, .int (nI i), .int (nI j), .int (nI 0)] S I (am_q (some (.int (nI 1))) S (am_up (am_up I 5 (8 * j + i / 2) (nI 0)) 0 10 (nI 0))) := by
  have hb := nIn.mp hin
  have hpi : pInner w h (nI i) (nI j) = true := by rw [pInner_nI (by have := nIn.mp hin; omega) (by have := nIn.mp hin; omega)]; exact hin
  refine am_mt ⟨by decide +kernel, rfl⟩ (Nat.le_of_ble_eq_true rfl) rfl ?_
  refine rn_aload_n dX7_pin_0 rfl rfl ?_
  refine rn_getR (r := 1) dX7_pin_1 fd_7_10 (sk_l hs 0 (by decide)) (sk_k0 hs) rfl (sk_r0_0 hs) ?_
  refine rn_iload_n dX7_pin_4 rfl rfl ?_
  refine rn_iload_n dX7_pin_5 rfl rfl ?_
  refine rn_callVq (st := []) dX7_pin_6 cf_7_86 (c_X0_isInner (sk_d1 hs) hD.1 hD.2.1 w8 h8 _ _) (by omega) (sk_d1 hs).1 (sk_d1 hs).2.1 rfl rfl (Nat.le_of_ble_eq_true rfl) ?_
  refine rn_if_neB (tgt := 14) dX7_pin_9 (by decide) (fun c_9 => ?_) (fun c_9 => ?_)
  · refine rn_aload_n dX7_pin_14 rfl rfl ?_
    refine rn_getR (r := 5) dX7_pin_15 fd_7_32 (sk_l hs 0 (by decide)) (sk_k0 hs) rfl (sk_r0_2 hs) ?_
    refine rn_iload_n dX7_pin_18 rfl rfl ?_
    refine rn_iload_n dX7_pin_19 rfl rfl ?_
    refine rn_callSq (st := [.ref 5]) dX7_pin_20 cf_7_100 (c_X7_placeOf _ _ (by omega)) (by omega) rfl rfl (Nat.le_of_ble_eq_true rfl) ?_
    refine rn_iload_n dX7_pin_23 rfl rfl ?_
    refine rn_if_eqN (tgt := 31) dX7_pin_24 (by decide) (by omega) (fun c_24 => ?_) (fun c_24 => ?_)
    · refine rn_iconst (v := nI 0) dX7_pin_31 (by decide) ?_
      refine rn_iastoreN dX7_pin_32 (sk_l hs 5 (by decide)) (sk_k5 hs) (by omega) (by omega) ?_
      refine rn_aload_n dX7_pin_33 rfl rfl ?_
      refine rn_iconst (v := nI 0) dX7_pin_34 (by decide) ?_
      refine rn_putI dX7_pin_35 fd_7_83 (sk_l hs 0 (by decide)) (sk_k0 hs) rfl rfl (by decide) (by decide) ?_
      refine rn_iconst (v := nI 1) dX7_pin_38 (by decide) ?_
      refine rn_ireturn dX7_pin_39 rfl (by decide) ?_
      exact ⟨rfl, rfl, rfl⟩
    · exact absurd c_24 (by decide)
  · exact absurd hpi (by rw [c_9]; decide)
set_option maxHeartbeats 1000000 in
set_option maxRecDepth 100000 in
theorem c_X7_pin_y1 {S : am_S} (hs : sk S) {I : am_I} {w h : Nat} (w1 : 1 ≤ w) (w8 : w ≤ 8) (h1 : 1 ≤ h) (h8 : h ≤ 8) {M : Nat → Nat → Nat} (hD : isDr I 1 2 w h M) {i j : Nat} (hin : nInner w h i j = true) : am_Mt 2 Y_X7_pin (0, 0) [.ref 0, .int (nI i), .int (nI j), .int (nI 1)] S I (am_q (some (.int (nI 1))) S (am_up (am_up I 5 (8 * j + i / 2) (nI 1)) 0 10 (nI 0))) := by
  have hb := nIn.mp hin
  have hpi : pInner w h (nI i) (nI j) = true := by rw [pInner_nI (by have := nIn.mp hin; omega) (by have := nIn.mp hin; omega)]; exact hin
  refine am_mt ⟨by decide +kernel, rfl⟩ (Nat.le_of_ble_eq_true rfl) rfl ?_
  refine rn_aload_n dX7_pin_0 rfl rfl ?_
  refine rn_getR (r := 1) dX7_pin_1 fd_7_10 (sk_l hs 0 (by decide)) (sk_k0 hs) rfl (sk_r0_0 hs) ?_
  refine rn_iload_n dX7_pin_4 rfl rfl ?_
  refine rn_iload_n dX7_pin_5 rfl rfl ?_
  refine rn_callVq (st := []) dX7_pin_6 cf_7_86 (c_X0_isInner (sk_d1 hs) hD.1 hD.2.1 w8 h8 _ _) (by omega) (sk_d1 hs).1 (sk_d1 hs).2.1 rfl rfl (Nat.le_of_ble_eq_true rfl) ?_
  refine rn_if_neB (tgt := 14) dX7_pin_9 (by decide) (fun c_9 => ?_) (fun c_9 => ?_)
  · refine rn_aload_n dX7_pin_14 rfl rfl ?_
    refine rn_getR (r := 5) dX7_pin_15 fd_7_32 (sk_l hs 0 (by decide)) (sk_k0 hs) rfl (sk_r0_2 hs) ?_
    refine rn_iload_n dX7_pin_18 rfl rfl ?_
    refine rn_iload_n dX7_pin_19 rfl rfl ?_
    refine rn_callSq (st := [.ref 5]) dX7_pin_20 cf_7_100 (c_X7_placeOf _ _ (by omega)) (by omega) rfl rfl (Nat.le_of_ble_eq_true rfl) ?_
    refine rn_iload_n dX7_pin_23 rfl rfl ?_
    refine rn_if_eqN (tgt := 31) dX7_pin_24 (by decide) (by omega) (fun c_24 => ?_) (fun c_24 => ?_)
    · exact absurd c_24 (by decide)
    · refine rn_iconst (v := nI 1) dX7_pin_27 (by decide) ?_
      refine rn_goto (tgt := 32) dX7_pin_28 (by decide) ?_
      refine rn_iastoreN dX7_pin_32 (sk_l hs 5 (by decide)) (sk_k5 hs) (by omega) (by omega) ?_
      refine rn_aload_n dX7_pin_33 rfl rfl ?_
      refine rn_iconst (v := nI 0) dX7_pin_34 (by decide) ?_
      refine rn_putI dX7_pin_35 fd_7_83 (sk_l hs 0 (by decide)) (sk_k0 hs) rfl rfl (by decide) (by decide) ?_
      refine rn_iconst (v := nI 1) dX7_pin_38 (by decide) ?_
      refine rn_ireturn dX7_pin_39 rfl (by decide) ?_
      exact ⟨rfl, rfl, rfl⟩
  · exact absurd hpi (by rw [c_9]; decide)
set_option maxHeartbeats 1000000 in
set_option maxRecDepth 100000 in
theorem c_X7_pin_n {S : am_S} (hs : sk S) {I : am_I} {w h : Nat} (w1 : 1 ≤ w) (w8 : w ≤ 8) (h1 : 1 ≤ h) (h8 : h ≤ 8) {M : Nat → Nat → Nat} (hD : isDr I 1 2 w h M) {x y v : Int32} (hn : pInner w h x y = false) : am_Mt 2 Y_X7_pin (0, 0) [.ref 0, .int x, .int y, .int v] S I (am_q (some (.int (nI 0))) S I) := by
  refine am_mt ⟨by decide +kernel, rfl⟩ (Nat.le_of_ble_eq_true rfl) rfl ?_
  refine rn_aload_n dX7_pin_0 rfl rfl ?_
  refine rn_getR (r := 1) dX7_pin_1 fd_7_10 (sk_l hs 0 (by decide)) (sk_k0 hs) rfl (sk_r0_0 hs) ?_
  refine rn_iload_n dX7_pin_4 rfl rfl ?_
  refine rn_iload_n dX7_pin_5 rfl rfl ?_
  refine rn_callVq (st := []) dX7_pin_6 cf_7_86 (c_X0_isInner (sk_d1 hs) hD.1 hD.2.1 w8 h8 _ _) (by omega) (sk_d1 hs).1 (sk_d1 hs).2.1 rfl rfl (Nat.le_of_ble_eq_true rfl) ?_
  refine rn_if_neB (tgt := 14) dX7_pin_9 (by decide) (fun c_9 => ?_) (fun c_9 => ?_)
  · exact absurd c_9 (by rw [hn]; decide)
  · refine rn_iconst (v := nI 0) dX7_pin_12 (by decide) ?_
    refine rn_ireturn dX7_pin_13 rfl (by decide) ?_
    exact ⟨rfl, rfl, rfl⟩
set_option maxHeartbeats 1000000 in
set_option maxRecDepth 100000 in
theorem c_X8_set_y {S : am_S} (hs : sk S) {I : am_I} {w h : Nat} (w1 : 1 ≤ w) (w8 : w ≤ 8) (h1 : 1 ≤ h) (h8 : h ≤ 8) {M : Nat → Nat → Nat} (hG : isGr I 0 w h M) {i j : Nat} (hin : nInner w h i j = true) {v : Nat} (hv : v ≤ 2) : am_Mt 2 Y_X8_set (0, 0) [.ref 44, .int (nI i), .int (nI j), .int (nI v)] S I (am_q (some (.int (nI 1))) S (am_up I 47 (289 * 0 + 17 * j + i) (nI v))) := by
  have hb := nIn.mp hin
  have hpi : pInner w h (nI i) (nI j) = true := by rw [pInner_nI (by have := nIn.mp hin; omega) (by have := nIn.mp hin; omega)]; exact hin
  refine am_mt ⟨by decide +kernel, rfl⟩ (Nat.le_of_ble_eq_true rfl) rfl ?_
  refine rn_aload_n dX8_set_0 rfl rfl ?_
  refine rn_iconst (v := nI 0) dX8_set_1 (by decide) ?_
  refine rn_iload_n dX8_set_2 rfl rfl ?_
  refine rn_iload_n dX8_set_3 rfl rfl ?_
  refine rn_callVq (st := []) dX8_set_4 cf_8_74 (c_X8_isInner hs (g := 0) (by decide) hG.1 hG.2.1 w1 w8 h1 h8 _ _) (by omega) (sk_l hs 44 (by decide)) (sk_k44 hs) rfl rfl (Nat.le_of_ble_eq_true rfl) ?_
  refine rn_if_eqB (tgt := 19) dX8_set_7 (by decide) (fun c_7 => ?_) (fun c_7 => ?_)
  · exact absurd hpi (by rw [c_7]; decide)
  · refine rn_iload_n dX8_set_10 rfl rfl ?_
    refine rn_iconst (v := nI 0) dX8_set_11 (by decide) ?_
    refine rn_iconst (v := nI 2) dX8_set_12 (by decide) ?_
    refine rn_callSq (st := []) dX8_set_13 cf_8_70 (m_isInN _ _ (by omega) (by decide) (by decide)) (by omega) rfl rfl (Nat.le_of_ble_eq_true rfl) ?_
    refine rn_if_neB (tgt := 21) dX8_set_16 (by decide) (fun c_16 => ?_) (fun c_16 => ?_)
    · refine rn_aload_n dX8_set_21 rfl rfl ?_
      refine rn_getR (r := 47) dX8_set_22 fd_8_16 (sk_l hs 44 (by decide)) (sk_k44 hs) rfl (sk_r44_2 hs) ?_
      refine rn_iconst (v := nI 0) dX8_set_25 (by decide) ?_
      refine rn_iload_n dX8_set_26 rfl rfl ?_
      refine rn_iload_n dX8_set_27 rfl rfl ?_
      refine rn_callSq (st := [.ref 47]) dX8_set_28 cf_8_77 (c_X8_cell S I _ _ _) (by omega) rfl rfl (Nat.le_of_ble_eq_true rfl) ?_
      refine rn_iload_n dX8_set_31 rfl rfl ?_
      refine rn_i2b dX8_set_32 ?_
      refine rn_top (y := nI v) (b8_n hv) ?_
      refine rn_bastoreN dX8_set_33 (sk_l hs 47 (by decide)) (sk_k47 hs) (by omega) (by omega) ?_
      refine rn_I (I' := am_up I 47 (289 * 0 + 17 * j + i) (nI v)) (by rw [show (nI v).toInt8.toInt32 = nI v from b8_n hv]) ?_
      refine rn_iconst (v := nI 1) dX8_set_34 (by decide) ?_
      refine rn_ireturn dX8_set_35 rfl (by decide) ?_
      exact ⟨rfl, rfl, rfl⟩
    · exact absurd (by omega) (of_decide_eq_false c_16)
set_option maxHeartbeats 1000000 in
set_option maxRecDepth 100000 in
theorem c_X8_set_n {S : am_S} (hs : sk S) {I : am_I} {w h : Nat} (w1 : 1 ≤ w) (w8 : w ≤ 8) (h1 : 1 ≤ h) (h8 : h ≤ 8) {M : Nat → Nat → Nat} (hG : isGr I 0 w h M) {x y v : Int32} (hn : ¬ (pInner w h x y = true ∧ 0 ≤ v.toInt ∧ v.toInt ≤ 2)) : am_Mt 2 Y_X8_set (0, 0) [.ref 44, .int x, .int y, .int v] S I (am_q (some (.int (nI 0))) S I) := by
  refine am_mt ⟨by decide +kernel, rfl⟩ (Nat.le_of_ble_eq_true rfl) rfl ?_
  refine rn_aload_n dX8_set_0 rfl rfl ?_
  refine rn_iconst (v := nI 0) dX8_set_1 (by decide) ?_
  refine rn_iload_n dX8_set_2 rfl rfl ?_
  refine rn_iload_n dX8_set_3 rfl rfl ?_
  refine rn_callVq (st := []) dX8_set_4 cf_8_74 (c_X8_isInner hs (g := 0) (by decide) hG.1 hG.2.1 w1 w8 h1 h8 _ _) (by omega) (sk_l hs 44 (by decide)) (sk_k44 hs) rfl rfl (Nat.le_of_ble_eq_true rfl) ?_
  refine rn_if_eqB (tgt := 19) dX8_set_7 (by decide) (fun c_7 => ?_) (fun c_7 => ?_)
  · refine rn_iconst (v := nI 0) dX8_set_19 (by decide) ?_
    refine rn_ireturn dX8_set_20 rfl (by decide) ?_
    exact ⟨rfl, rfl, rfl⟩
  · refine rn_iload_n dX8_set_10 rfl rfl ?_
    refine rn_iconst (v := nI 0) dX8_set_11 (by decide) ?_
    refine rn_iconst (v := nI 2) dX8_set_12 (by decide) ?_
    refine rn_callSq (st := []) dX8_set_13 cf_8_70 (c_X8_isIn S I _ _ _) (by omega) rfl rfl (Nat.le_of_ble_eq_true rfl) ?_
    refine rn_if_neB (tgt := 21) dX8_set_16 (by decide) (fun c_16 => ?_) (fun c_16 => ?_)
    · have q := of_decide_eq_true c_16
      rw [z_nI (by decide), z_nI (by decide)] at q
      exact absurd (And.intro c_7 q) hn
    · refine rn_iconst (v := nI 0) dX8_set_19 (by decide) ?_
      refine rn_ireturn dX8_set_20 rfl (by decide) ?_
      exact ⟨rfl, rfl, rfl⟩
set_option maxHeartbeats 1000000 in
set_option maxRecDepth 100000 in
theorem c_X8_mirror_y {S : am_S} (hs : sk S) {I : am_I} {w h : Nat} (w1 : 1 ≤ w) (w8 : w ≤ 8) (h1 : 1 ≤ h) (h8 : h ≤ 8) {M : Nat → Nat → Nat} (hG : isGr I 0 w h M) {i j : Nat} (hin : nInner w h i j = true) : am_Mt 2 Y_X8_mirror (0, 0) [.ref 44, .int (nI i), .int (nI j)] S I (am_q (some (.int (nI (M i j)))) S I) := by
  have hb := nIn.mp hin
  have hpi : pInner w h (nI i) (nI j) = true := by rw [pInner_nI (by have := nIn.mp hin; omega) (by have := nIn.mp hin; omega)]; exact hin
  refine am_mt ⟨by decide +kernel, rfl⟩ (Nat.le_of_ble_eq_true rfl) rfl ?_
  refine rn_aload_n dX8_mirror_0 rfl rfl ?_
  refine rn_iconst (v := nI 0) dX8_mirror_1 (by decide) ?_
  refine rn_iload_n dX8_mirror_2 rfl rfl ?_
  refine rn_iload_n dX8_mirror_3 rfl rfl ?_
  refine rn_callVq (st := []) dX8_mirror_4 cf_8_74 (c_X8_isInner hs (g := 0) (by decide) hG.1 hG.2.1 w1 w8 h1 h8 _ _) (by omega) (sk_l hs 44 (by decide)) (sk_k44 hs) rfl rfl (Nat.le_of_ble_eq_true rfl) ?_
  refine rn_if_eqB (tgt := 24) dX8_mirror_7 (by decide) (fun c_7 => ?_) (fun c_7 => ?_)
  · exact absurd hpi (by rw [c_7]; decide)
  · refine rn_aload_n dX8_mirror_10 rfl rfl ?_
    refine rn_getR (r := 47) dX8_mirror_11 fd_8_16 (sk_l hs 44 (by decide)) (sk_k44 hs) rfl (sk_r44_2 hs) ?_
    refine rn_iconst (v := nI 0) dX8_mirror_14 (by decide) ?_
    refine rn_iload_n dX8_mirror_15 rfl rfl ?_
    refine rn_iload_n dX8_mirror_16 rfl rfl ?_
    refine rn_callSq (st := [.ref 47]) dX8_mirror_17 cf_8_77 (c_X8_cell S I _ _ _) (by omega) rfl rfl (Nat.le_of_ble_eq_true rfl) ?_
    refine rn_baloadN dX8_mirror_20 (sk_l hs 47 (by decide)) (sk_k47 hs) (by decide) (by omega) (by omega) ?_
    refine rn_goto (tgt := 25) dX8_mirror_21 (by decide) ?_
    refine rn_ireturn dX8_mirror_25 rfl (vp_nar_int _) ?_
    exact ⟨by rw [hG.2.2 i j (by omega) (by omega), show gv w h M i j = M i j from if_pos hin], rfl, rfl⟩
set_option maxHeartbeats 1000000 in
set_option maxRecDepth 100000 in
theorem c_X8_mirror_n {S : am_S} (hs : sk S) {I : am_I} {w h : Nat} (w1 : 1 ≤ w) (w8 : w ≤ 8) (h1 : 1 ≤ h) (h8 : h ≤ 8) {M : Nat → Nat → Nat} (hG : isGr I 0 w h M) {x y : Int32} (hn : pInner w h x y = false) : am_Mt 2 Y_X8_mirror (0, 0) [.ref 44, .int x, .int y] S I (am_q (some (.int (-1))) S I) := by
  refine am_mt ⟨by decide +kernel, rfl⟩ (Nat.le_of_ble_eq_true rfl) rfl ?_
  refine rn_aload_n dX8_mirror_0 rfl rfl ?_
  refine rn_iconst (v := nI 0) dX8_mirror_1 (by decide) ?_
  refine rn_iload_n dX8_mirror_2 rfl rfl ?_
  refine rn_iload_n dX8_mirror_3 rfl rfl ?_
  refine rn_callVq (st := []) dX8_mirror_4 cf_8_74 (c_X8_isInner hs (g := 0) (by decide) hG.1 hG.2.1 w1 w8 h1 h8 _ _) (by omega) (sk_l hs 44 (by decide)) (sk_k44 hs) rfl rfl (Nat.le_of_ble_eq_true rfl) ?_
  refine rn_if_eqB (tgt := 24) dX8_mirror_7 (by decide) (fun c_7 => ?_) (fun c_7 => ?_)
  · refine rn_iconst (v := (-1)) dX8_mirror_24 (by decide) ?_
    refine rn_ireturn dX8_mirror_25 rfl (vp_nar_int _) ?_
    exact ⟨rfl, rfl, rfl⟩
  · exact absurd c_7 (by rw [hn]; decide)
set_option maxHeartbeats 1000000 in
set_option maxRecDepth 100000 in
theorem c_X8_pin_y0 {S : am_S} (hs : sk S) {I : am_I} {w h : Nat} (w1 : 1 ≤ w) (w8 : w ≤ 8) (h1 : 1 ≤ h) (h8 : h ≤ 8) {M : Nat → Nat → Nat} (hG : isGr I 0 w h M) {i j : Nat} (hin : nInner w h i j = true) : am_Mt 2 Y_X8_pin (0, 0) [.ref 44, .int (nI i), .int (nI j), .int (nI 0)] S I (am_q (some (.int (nI 1))) S (am_up I 48 (289 * 0 + 17 * j + i) (nI 0))) := by
  have hb := nIn.mp hin
  have hpi : pInner w h (nI i) (nI j) = true := by rw [pInner_nI (by have := nIn.mp hin; omega) (by have := nIn.mp hin; omega)]; exact hin
  refine am_mt ⟨by decide +kernel, rfl⟩ (Nat.le_of_ble_eq_true rfl) rfl ?_
  refine rn_aload_n dX8_pin_0 rfl rfl ?_
  refine rn_iconst (v := nI 0) dX8_pin_1 (by decide) ?_
  refine rn_iload_n dX8_pin_2 rfl rfl ?_
  refine rn_iload_n dX8_pin_3 rfl rfl ?_
  refine rn_callVq (st := []) dX8_pin_4 cf_8_74 (c_X8_isInner hs (g := 0) (by decide) hG.1 hG.2.1 w1 w8 h1 h8 _ _) (by omega) (sk_l hs 44 (by decide)) (sk_k44 hs) rfl rfl (Nat.le_of_ble_eq_true rfl) ?_
  refine rn_if_neB (tgt := 12) dX8_pin_7 (by decide) (fun c_7 => ?_) (fun c_7 => ?_)
  · refine rn_aload_n dX8_pin_12 rfl rfl ?_
    refine rn_getR (r := 48) dX8_pin_13 fd_8_20 (sk_l hs 44 (by decide)) (sk_k44 hs) rfl (sk_r44_3 hs) ?_
    refine rn_iconst (v := nI 0) dX8_pin_16 (by decide) ?_
    refine rn_iload_n dX8_pin_17 rfl rfl ?_
    refine rn_iload_n dX8_pin_18 rfl rfl ?_
    refine rn_callSq (st := [.ref 48]) dX8_pin_19 cf_8_77 (c_X8_cell S I _ _ _) (by omega) rfl rfl (Nat.le_of_ble_eq_true rfl) ?_
    refine rn_iload_n dX8_pin_22 rfl rfl ?_
    refine rn_zastoreN dX8_pin_23 (sk_l hs 48 (by decide)) (sk_k48 hs) (by omega) (by omega) (by decide) ?_
    refine rn_iconst (v := nI 1) dX8_pin_24 (by decide) ?_
    refine rn_ireturn dX8_pin_25 rfl (by decide) ?_
    exact ⟨rfl, rfl, rfl⟩
  · exact absurd hpi (by rw [c_7]; decide)
set_option maxHeartbeats 1000000 in
set_option maxRecDepth 100000 in
theorem c_X8_pin_y1 {S : am_S} (hs : sk S) {I : am_I} {w h : Nat} (w1 : 1 ≤ w) (w8 : w ≤ 8) (h1 : 1 ≤ h) (h8 : h ≤ 8) {M : Nat → Nat → Nat} (hG : isGr I 0 w h M) {i j : Nat} (hin : nInner w h i j = true) : am_Mt 2 Y_X8_pin (0, 0) [.ref 44, .int (nI i), .int (nI j), .int (nI 1)] S I (am_q (some (.int (nI 1))) S (am_up I 48 (289 * 0 + 17 * j + i) (nI 1))) := by
  have hb := nIn.mp hin
  have hpi : pInner w h (nI i) (nI j) = true := by rw [pInner_nI (by have := nIn.mp hin; omega) (by have := nIn.mp hin; omega)]; exact hin
  refine am_mt ⟨by decide +kernel, rfl⟩ (Nat.le_of_ble_eq_true rfl) rfl ?_
  refine rn_aload_n dX8_pin_0 rfl rfl ?_
  refine rn_iconst (v := nI 0) dX8_pin_1 (by decide) ?_
  refine rn_iload_n dX8_pin_2 rfl rfl ?_
  refine rn_iload_n dX8_pin_3 rfl rfl ?_
  refine rn_callVq (st := []) dX8_pin_4 cf_8_74 (c_X8_isInner hs (g := 0) (by decide) hG.1 hG.2.1 w1 w8 h1 h8 _ _) (by omega) (sk_l hs 44 (by decide)) (sk_k44 hs) rfl rfl (Nat.le_of_ble_eq_true rfl) ?_
  refine rn_if_neB (tgt := 12) dX8_pin_7 (by decide) (fun c_7 => ?_) (fun c_7 => ?_)
  · refine rn_aload_n dX8_pin_12 rfl rfl ?_
    refine rn_getR (r := 48) dX8_pin_13 fd_8_20 (sk_l hs 44 (by decide)) (sk_k44 hs) rfl (sk_r44_3 hs) ?_
    refine rn_iconst (v := nI 0) dX8_pin_16 (by decide) ?_
    refine rn_iload_n dX8_pin_17 rfl rfl ?_
    refine rn_iload_n dX8_pin_18 rfl rfl ?_
    refine rn_callSq (st := [.ref 48]) dX8_pin_19 cf_8_77 (c_X8_cell S I _ _ _) (by omega) rfl rfl (Nat.le_of_ble_eq_true rfl) ?_
    refine rn_iload_n dX8_pin_22 rfl rfl ?_
    refine rn_zastoreN dX8_pin_23 (sk_l hs 48 (by decide)) (sk_k48 hs) (by omega) (by omega) (by decide) ?_
    refine rn_iconst (v := nI 1) dX8_pin_24 (by decide) ?_
    refine rn_ireturn dX8_pin_25 rfl (by decide) ?_
    exact ⟨rfl, rfl, rfl⟩
  · exact absurd hpi (by rw [c_7]; decide)
set_option maxHeartbeats 1000000 in
set_option maxRecDepth 100000 in
theorem c_X8_pin_n {S : am_S} (hs : sk S) {I : am_I} {w h : Nat} (w1 : 1 ≤ w) (w8 : w ≤ 8) (h1 : 1 ≤ h) (h8 : h ≤ 8) {M : Nat → Nat → Nat} (hG : isGr I 0 w h M) {x y v : Int32} (hn : pInner w h x y = false) : am_Mt 2 Y_X8_pin (0, 0) [.ref 44, .int x, .int y, .int v] S I (am_q (some (.int (nI 0))) S I) := by
  refine am_mt ⟨by decide +kernel, rfl⟩ (Nat.le_of_ble_eq_true rfl) rfl ?_
  refine rn_aload_n dX8_pin_0 rfl rfl ?_
  refine rn_iconst (v := nI 0) dX8_pin_1 (by decide) ?_
  refine rn_iload_n dX8_pin_2 rfl rfl ?_
  refine rn_iload_n dX8_pin_3 rfl rfl ?_
  refine rn_callVq (st := []) dX8_pin_4 cf_8_74 (c_X8_isInner hs (g := 0) (by decide) hG.1 hG.2.1 w1 w8 h1 h8 _ _) (by omega) (sk_l hs 44 (by decide)) (sk_k44 hs) rfl rfl (Nat.le_of_ble_eq_true rfl) ?_
  refine rn_if_neB (tgt := 12) dX8_pin_7 (by decide) (fun c_7 => ?_) (fun c_7 => ?_)
  · exact absurd c_7 (by rw [hn]; decide)
  · refine rn_iconst (v := nI 0) dX8_pin_10 (by decide) ?_
    refine rn_ireturn dX8_pin_11 rfl (by decide) ?_
    exact ⟨rfl, rfl, rfl⟩
def abF (t w h : Nat) (M P : Nat → Nat → Nat) (i j : Nat) : Nat := if nInner w h i j = true then (if t = 2 then 1 else if t = 5 then (if P i j = 0 then 0 else 1) else (if M i j = t - 2 then 1 else 0)) else 0
theorem abF_le (t w h : Nat) (M P : Nat → Nat → Nat) (i j : Nat) : abF t w h M P i j ≤ 1 := by unfold abF; (repeat' split) <;> omega
def abN (t w h : Nat) (M P : Nat → Nat → Nat) : Nat := sumN (fun j => sumN (fun i => abF t w h M P i j) 17) 17
def shN (Sh : Nat → Option Dw) : Nat → Nat
  | 0 => 0
  | k + 1 => shN Sh k + (if (Sh k).isSome = true then 1 else 0)
theorem shN_n {Sh : Nat → Option Dw} {k : Nat} (h : Sh k = none) : shN Sh (k + 1) = shN Sh k + 0 := by show shN Sh k + _ = _; rw [h]; rfl
theorem shN_y {Sh : Nat → Option Dw} {k : Nat} {D : Dw} (h : Sh k = some D) : shN Sh (k + 1) = shN Sh k + 1 := by show shN Sh k + _ = _; rw [h]; rfl
theorem shN_le (Sh : Nat → Option Dw) : ∀ k, shN Sh k ≤ k
  | 0 => Nat.le_refl _
  | k + 1 => by have := shN_le Sh k; unfold shN; split <;> omega
def vAb (w h : Nat) (M P : Nat → Nat → Nat) (n : Nat) (Sh : Nat → Option Dw) (t : Int32) : Int32 := if t = nI 0 then nI w else if t = nI 1 then nI h else if t = nI 2 then nI (abN 2 w h M P) else if t = nI 3 then nI (abN 3 w h M P) else if t = nI 4 then nI (abN 4 w h M P) else if t = nI 5 then nI (abN 5 w h M P) else if t = nI 6 then nI (shN Sh 8) else if t = nI 7 then nI n else if t = nI 8 then nI (4 * w * h) else -1
theorem sum17 {F : Nat → Nat} {c : Nat} (hc : c < 2) (h0 : ∀ i, i % 2 ≠ c → F i = 0) (h16 : F 16 = 0) : sumN (fun k => F (2 * k + c)) 8 = sumN F 17 := by
  rcases (show c = 0 ∨ c = 1 by omega) with rfl | rfl
  · have a1 := h0 1 (by decide); have a3 := h0 3 (by decide); have a5 := h0 5 (by decide); have a7 := h0 7 (by decide); have a9 := h0 9 (by decide); have a11 := h0 11 (by decide); have a13 := h0 13 (by decide); have a15 := h0 15 (by decide)
    simp only [sumN, a1, a3, a5, a7, a9, a11, a13, a15, h16]
    simp
  · have a0 := h0 0 (by decide); have a2 := h0 2 (by decide); have a4 := h0 4 (by decide); have a6 := h0 6 (by decide); have a8 := h0 8 (by decide); have a10 := h0 10 (by decide); have a12 := h0 12 (by decide); have a14 := h0 14 (by decide)
    simp only [sumN, a0, a2, a4, a6, a8, a10, a12, a14, h16]
    simp
/-- a sum over the class's places is one over the grid -/
theorem plc_sum {F : Nat → Nat → Nat} {w h : Nat} (w8 : w ≤ 8) (h8 : h ≤ 8) (h0 : ∀ i j, nInner w h i j ≠ true → F i j = 0) : sumN (fun p => F (2 * (p % 8) + (p / 8 + 1) % 2) (p / 8)) 128 = sumN (fun j => sumN (fun i => F i j) 17) 17 := by
  have e1 : sumN (fun p => F (2 * (p % 8) + (p / 8 + 1) % 2) (p / 8)) (8 * 16) = sumN (fun j => sumN (fun i => F i j) 17) 16 := by
    rw [sumN_blk]
    refine sumN_congr (fun j hj => ?_)
    have e2 : sumN (fun k => F (2 * k + (j + 1) % 2) j) 8 = sumN (fun i => F i j) 17 := sum17 (F := fun i => F i j) (Nat.mod_lt _ (by decide)) (fun i hi => h0 i j (fun q => by have := nIn.mp q; omega)) (h0 16 j (fun q => by have := nIn.mp q; omega))
    rw [← e2]
    refine sumN_congr (fun k hk => ?_)
    rw [show (8 * j + k) % 8 = k by omega, show (8 * j + k) / 8 = j by omega]
  have e3 : sumN (fun j => sumN (fun i => F i j) 17) 17 = sumN (fun j => sumN (fun i => F i j) 17) 16 + sumN (fun i => F i 16) 17 := rfl
  have e4 : sumN (fun i => F i 16) 17 = 0 := (sumN_congr (g := fun _ => 0) (fun i _ => h0 i 16 (fun q => by have := nIn.mp q; omega))).trans (sumN_0 17)
  rw [e3, e4, Nat.add_zero]
  exact e1
theorem cntV_sum (f : Nat → Int32) (v : Int32) : ∀ n, cntV f v n = sumN (fun p => if f p = v then 1 else 0) n
  | 0 => rfl
  | n + 1 => by simp only [cntV, sumN, cntV_sum f v n]
theorem ab_cnt {I : am_I} {w h v : Nat} {M : Nat → Nat → Nat} (P : Nat → Nat → Nat) (w8 : w ≤ 8) (h8 : h ≤ 8) (hok : okM w h M) (hD : isDr I 1 2 w h M) (hv : v = 1 ∨ v = 2) : cntV (I 2) (nI v) 128 = abN (v + 2) w h M P := by
  rw [cntV_sum]
  unfold abN
  rw [← plc_sum w8 h8 (F := abF (v + 2) w h M P) (fun i j q => if_neg q)]
  refine sumN_congr (fun p hp => ?_)
  rw [hD.2.2 p hp]
  generalize 2 * (p % 8) + (p / 8 + 1) % 2 = i
  generalize p / 8 = j
  have hg := gv_le hok i j
  have e : (nI (gv w h M i j) = nI v) ↔ gv w h M i j = v := nI_eq (by omega) (by omega)
  by_cases q : nInner w h i j = true
  · have e3 : abF (v + 2) w h M P i j = if M i j = v then 1 else 0 := by
      unfold abF
      rw [if_pos q, if_neg (show ¬ v + 2 = 2 by omega), if_neg (show ¬ v + 2 = 5 by omega), Nat.add_sub_cancel]
    have e2 : gv w h M i j = M i j := if_pos q
    rw [e3]
    by_cases q2 : M i j = v
    · rw [if_pos (e.mpr (e2.trans q2)), if_pos q2]
    · rw [if_neg (fun q9 => q2 (e2.symm.trans (e.mp q9))), if_neg q2]
  · have e3 : abF (v + 2) w h M P i j = 0 := if_neg q
    have e2 : gv w h M i j = 0 := if_neg q
    rw [e3, if_neg (fun q9 => by have := e.mp q9; omega)]
theorem ab_pin {w h : Nat} (M : Nat → Nat → Nat) {P : Nat → Nat → Nat} (w8 : w ≤ 8) (h8 : h ≤ 8) (hP : ∀ i j, nInner w h i j = true → P i j ≤ 1) : sumN (fun p => gv w h P (2 * (p % 8) + (p / 8 + 1) % 2) (p / 8)) 128 = abN 5 w h M P := by
  unfold abN
  rw [← plc_sum w8 h8 (F := abF 5 w h M P) (fun i j q => if_neg q)]
  refine sumN_congr (fun p hp => ?_)
  generalize 2 * (p % 8) + (p / 8 + 1) % 2 = i
  generalize p / 8 = j
  unfold abF gv
  by_cases q : nInner w h i j = true
  · have := hP i j q
    rw [if_pos q, if_pos q, if_neg (by decide), if_pos rfl]
    split <;> omega
  · rw [if_neg q, if_neg q]
theorem ab_row : ∀ w, w < 9 → ∀ c, c < 2 → sumN (fun i => if 0 < i ∧ i < 2 * w ∧ (i + c) % 2 = 1 then 1 else 0) 17 = if c = 1 then w - 1 else w := by decide
theorem ab_col {h : Nat} (h8 : h ≤ 8) (a b : Nat) : sumN (fun j => if 0 < j ∧ j < 2 * h then (if j % 2 = 1 then a else b) else 0) 17 = h * a + (h - 1) * b := by
  rcases (show h = 0 ∨ h = 1 ∨ h = 2 ∨ h = 3 ∨ h = 4 ∨ h = 5 ∨ h = 6 ∨ h = 7 ∨ h = 8 by omega) with rfl | rfl | rfl | rfl | rfl | rfl | rfl | rfl | rfl <;> simp [sumN] <;> omega
theorem ab_inn {w h : Nat} (w8 : w ≤ 8) (h8 : h ≤ 8) : sumN (fun j => sumN (fun i => if nInner w h i j = true then 1 else 0) 17) 17 = w * (h - 1) + h * (w - 1) := by
  have e : sumN (fun j => sumN (fun i => if nInner w h i j = true then 1 else 0) 17) 17 = sumN (fun j => if 0 < j ∧ j < 2 * h then (if j % 2 = 1 then w - 1 else w) else 0) 17 := by
    refine sumN_congr (fun j hj => ?_)
    by_cases hh : 0 < j ∧ j < 2 * h
    · rw [if_pos hh, ← ab_row w (by omega) (j % 2) (by omega)]
      refine sumN_congr (fun i hi => ?_)
      by_cases q : nInner w h i j = true
      · have := nIn.mp q
        rw [if_pos q, if_pos (by omega)]
      · rw [if_neg q, if_neg (fun q9 => q (nIn.mpr (by omega)))]
    · rw [if_neg hh]
      exact (sumN_congr (g := fun _ => 0) (fun i _ => if_neg (fun q => by have := nIn.mp q; omega))).trans (sumN_0 17)
  rw [e, ab_col h8, Nat.add_comm, Nat.mul_comm (h - 1) w]
theorem ab_2 {w h : Nat} (M P : Nat → Nat → Nat) (w8 : w ≤ 8) (h8 : h ≤ 8) : abN 2 w h M P = w * (h - 1) + h * (w - 1) := ab_inn w8 h8
theorem abN_le (t w h : Nat) (M P : Nat → Nat → Nat) : abN t w h M P ≤ 289 := by
  have h1 : ∀ j, sumN (fun i => abF t w h M P i j) 17 ≤ 17 := fun j => by have := sumN_le (f := fun i => abF t w h M P i j) (b := 1) (fun i => abF_le t w h M P i j) 17; omega
  have := sumN_le (f := fun j => sumN (fun i => abF t w h M P i j) 17) (b := 17) h1 17
  unfold abN; omega
set_option maxHeartbeats 1000000 in
set_option maxRecDepth 100000 in
theorem c_X7_pinCount {S : am_S} (hs : sk S) {I : am_I} {w h : Nat} (w1 : 1 ≤ w) (w8 : w ≤ 8) (h1 : 1 ≤ h) (h8 : h ≤ 8) (M : Nat → Nat → Nat) {P : Nat → Nat → Nat} (hP : isDr I 1 5 w h P) (hP1 : ∀ i j, nInner w h i j = true → P i j ≤ 1) : am_Mt 1 Y_X7_pinCount (0, 0) [.ref 0] S I (am_q (some (.int (nI (abN 5 w h M P)))) S I) := by
  have LP : ∀ k, k ≤ 128 → am_Rn 1 Y_X7_pinCount (0, 0) 13 [some (.ref 0), some (.int (nI (sumN (fun p => gv w h P (2 * (p % 8) + (p / 8 + 1) % 2) (p / 8)) k))), some (.ref 5), some (.int (nI 128)), some (.int (nI k)), none] [] S I (am_q (some (.int (nI (abN 5 w h M P)))) S I) := by
    refine am_loop 128 (fun k hk ih => ?_)
    refine rn_iload dX7_pinCount_13 rfl ?_
    refine rn_iload_n dX7_pinCount_15 rfl rfl ?_
    refine rn_icmp_geN (tgt := 36) dX7_pinCount_16 (by decide) (by omega) (by omega) (fun c_16 => ?_) (fun c_16 => ?_)
    · refine rn_iload_n dX7_pinCount_36 rfl rfl ?_
      refine rn_ireturn dX7_pinCount_37 rfl (vp_nar_int _) ?_
      obtain rfl : k = 128 := by omega
      exact ⟨by rw [ab_pin M w8 h8 hP1], rfl, rfl⟩
    · refine rn_aload_n dX7_pinCount_19 rfl rfl ?_
      refine rn_iload dX7_pinCount_20 rfl ?_
      refine rn_ialoadN dX7_pinCount_22 (sk_l hs 5 (by decide)) (sk_k5 hs) (by omega) (by omega) ?_
      refine rn_top (y := nI (gv w h P (2 * (k % 8) + (k / 8 + 1) % 2) (k / 8))) (hP.2.2 k c_16) ?_
      refine rn_istore (ls' := [some (.ref 0), some (.int (nI (sumN (fun p => gv w h P (2 * (p % 8) + (p / 8 + 1) % 2) (p / 8)) k))), some (.ref 5), some (.int (nI 128)), some (.int (nI k)), some (.int (nI (gv w h P (2 * (k % 8) + (k / 8 + 1) % 2) (k / 8))))]) dX7_pinCount_23 (by decide) rfl rfl ?_
      refine rn_iload_n dX7_pinCount_25 rfl rfl ?_
      refine rn_iload dX7_pinCount_26 rfl ?_
      refine rn_iadd dX7_pinCount_28 ?_
      refine rn_top (nI_add _ _) ?_
      refine rn_top (y := nI (sumN (fun p => gv w h P (2 * (p % 8) + (p / 8 + 1) % 2) (p / 8)) (k + 1))) (rfl) ?_
      refine rn_istore_n (ls' := [some (.ref 0), some (.int (nI (sumN (fun p => gv w h P (2 * (p % 8) + (p / 8 + 1) % 2) (p / 8)) (k + 1)))), some (.ref 5), some (.int (nI 128)), some (.int (nI k)), some (.int (nI (gv w h P (2 * (k % 8) + (k / 8 + 1) % 2) (k / 8))))]) dX7_pinCount_29 rfl (by decide) rfl rfl ?_
      refine rn_iinc (v := nI (k + 1)) (ls' := [some (.ref 0), some (.int (nI (sumN (fun p => gv w h P (2 * (p % 8) + (p / 8 + 1) % 2) (p / 8)) (k + 1)))), some (.ref 5), some (.int (nI 128)), some (.int (nI (k + 1))), some (.int (nI (gv w h P (2 * (k % 8) + (k / 8 + 1) % 2) (k / 8))))]) dX7_pinCount_30 rfl (nI_add _ 1) (by decide) rfl rfl ?_
      refine rn_goto (tgt := 13) dX7_pinCount_33 (by decide) ?_
      refine rn_ls (ls' := [some (.ref 0), some (.int (nI (sumN (fun p => gv w h P (2 * (p % 8) + (p / 8 + 1) % 2) (p / 8)) (k + 1)))), some (.ref 5), some (.int (nI 128)), some (.int (nI (k + 1))), none]) rfl (fun i x h => by rcases i with _ | _ | _ | _ | _ | _ | i <;> first | exact h | (simp at h)) ?_
      exact ih c_16
  refine am_mt ⟨by decide +kernel, rfl⟩ (Nat.le_of_ble_eq_true rfl) rfl ?_
  refine rn_iconst (v := nI 0) dX7_pinCount_0 (by decide) ?_
  refine rn_istore_n (ls' := [some (.ref 0), some (.int (nI 0)), none, none, none, none]) dX7_pinCount_1 rfl (by decide) rfl rfl ?_
  refine rn_aload_n dX7_pinCount_2 rfl rfl ?_
  refine rn_getR (r := 5) dX7_pinCount_3 fd_7_32 (sk_l hs 0 (by decide)) (sk_k0 hs) rfl (sk_r0_2 hs) ?_
  refine rn_astore_n (ls' := [some (.ref 0), some (.int (nI 0)), some (.ref 5), none, none, none]) dX7_pinCount_6 rfl (by decide) rfl rfl ?_
  refine rn_aload_n dX7_pinCount_7 rfl rfl ?_
  refine rn_alen dX7_pinCount_8 (sk_l hs 5 (by decide)) (sk_k5 hs) (by decide) ?_
  refine rn_istore_n (ls' := [some (.ref 0), some (.int (nI 0)), some (.ref 5), some (.int (nI 128)), none, none]) dX7_pinCount_9 rfl (by decide) rfl rfl ?_
  refine rn_iconst (v := nI 0) dX7_pinCount_10 (by decide) ?_
  refine rn_istore (ls' := [some (.ref 0), some (.int (nI 0)), some (.ref 5), some (.int (nI 128)), some (.int (nI 0)), none]) dX7_pinCount_11 (by decide) rfl rfl ?_
  exact LP 0 (Nat.zero_le _)
set_option maxHeartbeats 1000000 in
set_option maxRecDepth 100000 in
theorem c_X7_shelvesUsed {S : am_S} (hs : sk S) {I : am_I} {Sh : Nat → Option Dw} (hS : ShX Sh S I) : am_Mt 1 Y_X7_shelvesUsed (0, 0) [.ref 0] S I (am_q (some (.int (nI (shN Sh 8)))) S I) := by
  have LP : ∀ k, k ≤ 8 → am_Rn 1 Y_X7_shelvesUsed (0, 0) 13 [some (.ref 0), some (.int (nI (shN Sh k))), some (.ref 6), some (.int (nI 8)), some (.int (nI k)), none] [] S I (am_q (some (.int (nI (shN Sh 8)))) S I) := by
    refine am_loop 8 (fun k hk ih => ?_)
    have hsl := shN_le Sh k
    by_cases hk8 : k < 8
    · rcases hS.1 k hk8 with ⟨h6, h7⟩ | ⟨c, D, h6, h7, _⟩
      · refine rn_iload dX7_shelvesUsed_13 rfl ?_
        refine rn_iload_n dX7_shelvesUsed_15 rfl rfl ?_
        refine rn_icmp_geN (tgt := 44) dX7_shelvesUsed_16 (by decide) (by omega) (by omega) (fun c_16 => ?_) (fun c_16 => ?_)
        · omega
        · refine rn_aload_n dX7_shelvesUsed_19 rfl rfl ?_
          refine rn_iload dX7_shelvesUsed_20 rfl ?_
          refine rn_aaloadN dX7_shelvesUsed_22 (sk_l hs 6 (by decide)) (sk_k6 hs) (by omega) (by omega) ?_
          refine rn_topv (y := .null) (by rw [h6]; rfl) ?_
          refine rn_astoreN (ls' := [some (.ref 0), some (.int (nI (shN Sh k))), some (.ref 6), some (.int (nI 8)), some (.int (nI k)), some (.null)]) dX7_shelvesUsed_23 (by decide) rfl rfl ?_
          refine rn_iload_n dX7_shelvesUsed_25 rfl rfl ?_
          refine rn_aloadN dX7_shelvesUsed_26 rfl ?_
          refine rn_ifnullN (tgt := 35) dX7_shelvesUsed_28 (by decide) ?_
          refine rn_iconst (v := nI 0) dX7_shelvesUsed_35 (by decide) ?_
          refine rn_iadd dX7_shelvesUsed_36 ?_
          refine rn_top (nI_add _ _) ?_
          refine rn_top (y := nI (shN Sh (k + 1))) (congrArg nI (shN_n h7).symm) ?_
          refine rn_istore_n (ls' := [some (.ref 0), some (.int (nI (shN Sh (k + 1)))), some (.ref 6), some (.int (nI 8)), some (.int (nI k)), some (.null)]) dX7_shelvesUsed_37 rfl (by decide) rfl rfl ?_
          refine rn_iinc (v := nI (k + 1)) (ls' := [some (.ref 0), some (.int (nI (shN Sh (k + 1)))), some (.ref 6), some (.int (nI 8)), some (.int (nI (k + 1))), some (.null)]) dX7_shelvesUsed_38 rfl (nI_add _ 1) (by decide) rfl rfl ?_
          refine rn_goto (tgt := 13) dX7_shelvesUsed_41 (by decide) ?_
          refine rn_ls (ls' := [some (.ref 0), some (.int (nI (shN Sh (k + 1)))), some (.ref 6), some (.int (nI 8)), some (.int (nI (k + 1))), none]) rfl (fun i x h => by rcases i with _ | _ | _ | _ | _ | _ | i <;> first | exact h | (simp at h)) ?_
          exact ih hk8
      · refine rn_iload dX7_shelvesUsed_13 rfl ?_
        refine rn_iload_n dX7_shelvesUsed_15 rfl rfl ?_
        refine rn_icmp_geN (tgt := 44) dX7_shelvesUsed_16 (by decide) (by omega) (by omega) (fun c_16 => ?_) (fun c_16 => ?_)
        · omega
        · refine rn_aload_n dX7_shelvesUsed_19 rfl rfl ?_
          refine rn_iload dX7_shelvesUsed_20 rfl ?_
          refine rn_aaloadN dX7_shelvesUsed_22 (sk_l hs 6 (by decide)) (sk_k6 hs) (by omega) (by omega) ?_
          refine rn_topv (y := .ref c) (by rw [h6]; rfl) ?_
          refine rn_astore (ls' := [some (.ref 0), some (.int (nI (shN Sh k))), some (.ref 6), some (.int (nI 8)), some (.int (nI k)), some (.ref c)]) dX7_shelvesUsed_23 (by decide) rfl rfl ?_
          refine rn_iload_n dX7_shelvesUsed_25 rfl rfl ?_
          refine rn_aload dX7_shelvesUsed_26 rfl ?_
          refine rn_ifnull dX7_shelvesUsed_28 ?_
          refine rn_iconst (v := nI 1) dX7_shelvesUsed_31 (by decide) ?_
          refine rn_goto (tgt := 36) dX7_shelvesUsed_32 (by decide) ?_
          refine rn_iadd dX7_shelvesUsed_36 ?_
          refine rn_top (nI_add _ _) ?_
          refine rn_top (y := nI (shN Sh (k + 1))) (congrArg nI (shN_y h7).symm) ?_
          refine rn_istore_n (ls' := [some (.ref 0), some (.int (nI (shN Sh (k + 1)))), some (.ref 6), some (.int (nI 8)), some (.int (nI k)), some (.ref c)]) dX7_shelvesUsed_37 rfl (by decide) rfl rfl ?_
          refine rn_iinc (v := nI (k + 1)) (ls' := [some (.ref 0), some (.int (nI (shN Sh (k + 1)))), some (.ref 6), some (.int (nI 8)), some (.int (nI (k + 1))), some (.ref c)]) dX7_shelvesUsed_38 rfl (nI_add _ 1) (by decide) rfl rfl ?_
          refine rn_goto (tgt := 13) dX7_shelvesUsed_41 (by decide) ?_
          refine rn_ls (ls' := [some (.ref 0), some (.int (nI (shN Sh (k + 1)))), some (.ref 6), some (.int (nI 8)), some (.int (nI (k + 1))), none]) rfl (fun i x h => by rcases i with _ | _ | _ | _ | _ | _ | i <;> first | exact h | (simp at h)) ?_
          exact ih hk8
    · refine rn_iload dX7_shelvesUsed_13 rfl ?_
      refine rn_iload_n dX7_shelvesUsed_15 rfl rfl ?_
      refine rn_icmp_geN (tgt := 44) dX7_shelvesUsed_16 (by decide) (by omega) (by omega) (fun c_16 => ?_) (fun c_16 => ?_)
      · refine rn_iload_n dX7_shelvesUsed_44 rfl rfl ?_
        refine rn_ireturn dX7_shelvesUsed_45 rfl (vp_nar_int _) ?_
        obtain rfl : k = 8 := by omega
        exact ⟨rfl, rfl, rfl⟩
      · omega
  refine am_mt ⟨by decide +kernel, rfl⟩ (Nat.le_of_ble_eq_true rfl) rfl ?_
  refine rn_iconst (v := nI 0) dX7_shelvesUsed_0 (by decide) ?_
  refine rn_istore_n (ls' := [some (.ref 0), some (.int (nI 0)), none, none, none, none]) dX7_shelvesUsed_1 rfl (by decide) rfl rfl ?_
  refine rn_aload_n dX7_shelvesUsed_2 rfl rfl ?_
  refine rn_getR (r := 6) dX7_shelvesUsed_3 fd_7_36 (sk_l hs 0 (by decide)) (sk_k0 hs) rfl (sk_r0_3 hs) ?_
  refine rn_astore_n (ls' := [some (.ref 0), some (.int (nI 0)), some (.ref 6), none, none, none]) dX7_shelvesUsed_6 rfl (by decide) rfl rfl ?_
  refine rn_aload_n dX7_shelvesUsed_7 rfl rfl ?_
  refine rn_alenq dX7_shelvesUsed_8 (sk_l hs 6 (by decide)) (sk_k6 hs) ?_
  refine rn_istore_n (ls' := [some (.ref 0), some (.int (nI 0)), some (.ref 6), some (.int (nI 8)), none, none]) dX7_shelvesUsed_9 rfl (by decide) rfl rfl ?_
  refine rn_iconst (v := nI 0) dX7_shelvesUsed_10 (by decide) ?_
  refine rn_istore (ls' := [some (.ref 0), some (.int (nI 0)), some (.ref 6), some (.int (nI 8)), some (.int (nI 0)), none]) dX7_shelvesUsed_11 (by decide) rfl rfl ?_
  exact LP 0 (Nat.zero_le _)
theorem vAb_n {w h : Nat} {M P : Nat → Nat → Nat} {n : Nat} {Sh : Nat → Option Dw} {t : Int32} (h9 : t.toInt < 0 ∨ 8 < t.toInt) : vAb w h M P n Sh t = -1 := by
  have A : ∀ k, k < 9 → ¬ t = nI k := fun k hk q => by rw [q, z_nI (by omega)] at h9; omega
  unfold vAb
  rw [if_neg (A 0 (by decide)), if_neg (A 1 (by decide)), if_neg (A 2 (by decide)), if_neg (A 3 (by decide)), if_neg (A 4 (by decide)), if_neg (A 5 (by decide)), if_neg (A 6 (by decide)), if_neg (A 7 (by decide)), if_neg (A 8 (by decide))]
theorem vAb_0 {w h : Nat} {M P : Nat → Nat → Nat} {n : Nat} {Sh : Nat → Option Dw} : vAb w h M P n Sh (nI 0) = nI w := by unfold vAb; rw [if_pos rfl]
theorem vAb_1 {w h : Nat} {M P : Nat → Nat → Nat} {n : Nat} {Sh : Nat → Option Dw} : vAb w h M P n Sh (nI 1) = nI h := by unfold vAb; rw [if_neg (by decide), if_pos rfl]
theorem vAb_2 {w h : Nat} {M P : Nat → Nat → Nat} {n : Nat} {Sh : Nat → Option Dw} : vAb w h M P n Sh (nI 2) = nI (abN 2 w h M P) := by unfold vAb; rw [if_neg (by decide), if_neg (by decide), if_pos rfl]
theorem vAb_3 {w h : Nat} {M P : Nat → Nat → Nat} {n : Nat} {Sh : Nat → Option Dw} : vAb w h M P n Sh (nI 3) = nI (abN 3 w h M P) := by unfold vAb; rw [if_neg (by decide), if_neg (by decide), if_neg (by decide), if_pos rfl]
theorem vAb_4 {w h : Nat} {M P : Nat → Nat → Nat} {n : Nat} {Sh : Nat → Option Dw} : vAb w h M P n Sh (nI 4) = nI (abN 4 w h M P) := by unfold vAb; rw [if_neg (by decide), if_neg (by decide), if_neg (by decide), if_neg (by decide), if_pos rfl]
theorem vAb_5 {w h : Nat} {M P : Nat → Nat → Nat} {n : Nat} {Sh : Nat → Option Dw} : vAb w h M P n Sh (nI 5) = nI (abN 5 w h M P) := by unfold vAb; rw [if_neg (by decide), if_neg (by decide), if_neg (by decide), if_neg (by decide), if_neg (by decide), if_pos rfl]
theorem vAb_6 {w h : Nat} {M P : Nat → Nat → Nat} {n : Nat} {Sh : Nat → Option Dw} : vAb w h M P n Sh (nI 6) = nI (shN Sh 8) := by unfold vAb; rw [if_neg (by decide), if_neg (by decide), if_neg (by decide), if_neg (by decide), if_neg (by decide), if_neg (by decide), if_pos rfl]
theorem vAb_7 {w h : Nat} {M P : Nat → Nat → Nat} {n : Nat} {Sh : Nat → Option Dw} : vAb w h M P n Sh (nI 7) = nI n := by unfold vAb; rw [if_neg (by decide), if_neg (by decide), if_neg (by decide), if_neg (by decide), if_neg (by decide), if_neg (by decide), if_neg (by decide), if_pos rfl]
theorem vAb_8 {w h : Nat} {M P : Nat → Nat → Nat} {n : Nat} {Sh : Nat → Option Dw} : vAb w h M P n Sh (nI 8) = nI (4 * w * h) := by unfold vAb; rw [if_neg (by decide), if_neg (by decide), if_neg (by decide), if_neg (by decide), if_neg (by decide), if_neg (by decide), if_neg (by decide), if_neg (by decide), if_pos rfl]
set_option maxHeartbeats 1000000 in
set_option maxRecDepth 100000 in
theorem c_X7_about {S : am_S} (hs : sk S) {I : am_I} {w h : Nat} (w1 : 1 ≤ w) (w8 : w ≤ 8) (h1 : 1 ≤ h) (h8 : h ≤ 8) {M P : Nat → Nat → Nat} (hok : okM w h M) (hP1 : ∀ i j, nInner w h i j = true → P i j ≤ 1) {n : Nat} {Sh : Nat → Option Dw} (hD : isDr I 1 2 w h M) (hP : isDr I 1 5 w h P) (hT : I 16 0 = nI n) (hS : ShX Sh S I) (t : Int32) : am_Mt 2 Y_X7_about (0, 0) [.ref 0, .int t] S I (am_q (some (.int (vAb w h M P n Sh t))) S I) := by
  by_cases ht0 : t = nI 0
  · subst ht0
    refine am_mt ⟨by decide +kernel, rfl⟩ (Nat.le_of_ble_eq_true rfl) rfl ?_
    refine rn_iload_n dX7_about_0 rfl rfl ?_
    refine rn_tableIn (off := 51) (tgt := 52) dX7_about_1 (by decide) (by decide) (by decide) (by decide) ?_
    refine rn_aload_n dX7_about_52 rfl rfl ?_
    refine rn_getR (r := 1) dX7_about_53 fd_7_10 (sk_l hs 0 (by decide)) (sk_k0 hs) rfl (sk_r0_0 hs) ?_
    refine rn_getI dX7_about_56 fd_7_133 (sk_d1 hs).1 (sk_d1 hs).2.1 rfl ?_
    refine rn_top (y := nI w) (hD.1) ?_
    refine rn_ireturn dX7_about_59 rfl (vp_nar_int _) ?_
    exact ⟨by rw [vAb_0], rfl, rfl⟩
  by_cases ht1 : t = nI 1
  · subst ht1
    refine am_mt ⟨by decide +kernel, rfl⟩ (Nat.le_of_ble_eq_true rfl) rfl ?_
    refine rn_iload_n dX7_about_0 rfl rfl ?_
    refine rn_tableIn (off := 59) (tgt := 60) dX7_about_1 (by decide) (by decide) (by decide) (by decide) ?_
    refine rn_aload_n dX7_about_60 rfl rfl ?_
    refine rn_getR (r := 1) dX7_about_61 fd_7_10 (sk_l hs 0 (by decide)) (sk_k0 hs) rfl (sk_r0_0 hs) ?_
    refine rn_getI dX7_about_64 fd_7_136 (sk_d1 hs).1 (sk_d1 hs).2.1 rfl ?_
    refine rn_top (y := nI h) (hD.2.1) ?_
    refine rn_ireturn dX7_about_67 rfl (vp_nar_int _) ?_
    exact ⟨by rw [vAb_1], rfl, rfl⟩
  by_cases ht2 : t = nI 2
  · subst ht2
    refine am_mt ⟨by decide +kernel, rfl⟩ (Nat.le_of_ble_eq_true rfl) rfl ?_
    refine rn_iload_n dX7_about_0 rfl rfl ?_
    refine rn_tableIn (off := 67) (tgt := 68) dX7_about_1 (by decide) (by decide) (by decide) (by decide) ?_
    refine rn_aload_n dX7_about_68 rfl rfl ?_
    refine rn_getR (r := 1) dX7_about_69 fd_7_10 (sk_l hs 0 (by decide)) (sk_k0 hs) rfl (sk_r0_0 hs) ?_
    refine rn_getI dX7_about_72 fd_7_133 (sk_d1 hs).1 (sk_d1 hs).2.1 rfl ?_
    refine rn_top (y := nI w) (hD.1) ?_
    refine rn_aload_n dX7_about_75 rfl rfl ?_
    refine rn_getR (r := 1) dX7_about_76 fd_7_10 (sk_l hs 0 (by decide)) (sk_k0 hs) rfl (sk_r0_0 hs) ?_
    refine rn_getI dX7_about_79 fd_7_136 (sk_d1 hs).1 (sk_d1 hs).2.1 rfl ?_
    refine rn_top (y := nI h) (hD.2.1) ?_
    refine rn_iconst (v := nI 1) dX7_about_82 (by decide) ?_
    refine rn_isub dX7_about_83 ?_
    refine rn_top (pk_sub (by omega)) ?_
    refine rn_imul dX7_about_84 ?_
    refine rn_top (pk_mul _ _) ?_
    refine rn_aload_n dX7_about_85 rfl rfl ?_
    refine rn_getR (r := 1) dX7_about_86 fd_7_10 (sk_l hs 0 (by decide)) (sk_k0 hs) rfl (sk_r0_0 hs) ?_
    refine rn_getI dX7_about_89 fd_7_136 (sk_d1 hs).1 (sk_d1 hs).2.1 rfl ?_
    refine rn_top (y := nI h) (hD.2.1) ?_
    refine rn_aload_n dX7_about_92 rfl rfl ?_
    refine rn_getR (r := 1) dX7_about_93 fd_7_10 (sk_l hs 0 (by decide)) (sk_k0 hs) rfl (sk_r0_0 hs) ?_
    refine rn_getI dX7_about_96 fd_7_133 (sk_d1 hs).1 (sk_d1 hs).2.1 rfl ?_
    refine rn_top (y := nI w) (hD.1) ?_
    refine rn_iconst (v := nI 1) dX7_about_99 (by decide) ?_
    refine rn_isub dX7_about_100 ?_
    refine rn_top (pk_sub (by omega)) ?_
    refine rn_imul dX7_about_101 ?_
    refine rn_top (pk_mul _ _) ?_
    refine rn_iadd dX7_about_102 ?_
    refine rn_top (nI_add _ _) ?_
    refine rn_ireturn dX7_about_103 rfl (vp_nar_int _) ?_
    exact ⟨by rw [vAb_2, ab_2 M P w8 h8], rfl, rfl⟩
  by_cases ht3 : t = nI 3
  · subst ht3
    refine am_mt ⟨by decide +kernel, rfl⟩ (Nat.le_of_ble_eq_true rfl) rfl ?_
    refine rn_iload_n dX7_about_0 rfl rfl ?_
    refine rn_tableIn (off := 103) (tgt := 104) dX7_about_1 (by decide) (by decide) (by decide) (by decide) ?_
    refine rn_aload_n dX7_about_104 rfl rfl ?_
    refine rn_getR (r := 1) dX7_about_105 fd_7_10 (sk_l hs 0 (by decide)) (sk_k0 hs) rfl (sk_r0_0 hs) ?_
    refine rn_iconst (v := nI 1) dX7_about_108 (by decide) ?_
    refine rn_callVq (st := []) dX7_about_109 cf_7_205 (c_X0_countOf (sk_d1 hs) _) (by omega) (sk_d1 hs).1 (sk_d1 hs).2.1 rfl rfl (Nat.le_of_ble_eq_true rfl) ?_
    refine rn_ireturn dX7_about_112 rfl (vp_nar_int _) ?_
    exact ⟨by rw [vAb_3, ← ab_cnt P w8 h8 hok hD (Or.inl rfl)], rfl, rfl⟩
  by_cases ht4 : t = nI 4
  · subst ht4
    refine am_mt ⟨by decide +kernel, rfl⟩ (Nat.le_of_ble_eq_true rfl) rfl ?_
    refine rn_iload_n dX7_about_0 rfl rfl ?_
    refine rn_tableIn (off := 112) (tgt := 113) dX7_about_1 (by decide) (by decide) (by decide) (by decide) ?_
    refine rn_aload_n dX7_about_113 rfl rfl ?_
    refine rn_getR (r := 1) dX7_about_114 fd_7_10 (sk_l hs 0 (by decide)) (sk_k0 hs) rfl (sk_r0_0 hs) ?_
    refine rn_iconst (v := nI 2) dX7_about_117 (by decide) ?_
    refine rn_callVq (st := []) dX7_about_118 cf_7_205 (c_X0_countOf (sk_d1 hs) _) (by omega) (sk_d1 hs).1 (sk_d1 hs).2.1 rfl rfl (Nat.le_of_ble_eq_true rfl) ?_
    refine rn_ireturn dX7_about_121 rfl (vp_nar_int _) ?_
    exact ⟨by rw [vAb_4, ← ab_cnt P w8 h8 hok hD (Or.inr rfl)], rfl, rfl⟩
  by_cases ht5 : t = nI 5
  · subst ht5
    refine am_mt ⟨by decide +kernel, rfl⟩ (Nat.le_of_ble_eq_true rfl) rfl ?_
    refine rn_iload_n dX7_about_0 rfl rfl ?_
    refine rn_tableIn (off := 121) (tgt := 122) dX7_about_1 (by decide) (by decide) (by decide) (by decide) ?_
    refine rn_aload_n dX7_about_122 rfl rfl ?_
    refine rn_callVq (st := []) dX7_about_123 cf_7_208 (c_X7_pinCount hs w1 w8 h1 h8 M hP hP1) (by omega) (sk_l hs 0 (by decide)) (sk_k0 hs) rfl rfl (Nat.le_of_ble_eq_true rfl) ?_
    refine rn_ireturn dX7_about_126 rfl (vp_nar_int _) ?_
    exact ⟨by rw [vAb_5], rfl, rfl⟩
  by_cases ht6 : t = nI 6
  · subst ht6
    refine am_mt ⟨by decide +kernel, rfl⟩ (Nat.le_of_ble_eq_true rfl) rfl ?_
    refine rn_iload_n dX7_about_0 rfl rfl ?_
    refine rn_tableIn (off := 126) (tgt := 127) dX7_about_1 (by decide) (by decide) (by decide) (by decide) ?_
    refine rn_aload_n dX7_about_127 rfl rfl ?_
    refine rn_callVq (st := []) dX7_about_128 cf_7_212 (c_X7_shelvesUsed hs hS) (by omega) (sk_l hs 0 (by decide)) (sk_k0 hs) rfl rfl (Nat.le_of_ble_eq_true rfl) ?_
    refine rn_ireturn dX7_about_131 rfl (vp_nar_int _) ?_
    exact ⟨by rw [vAb_6], rfl, rfl⟩
  by_cases ht7 : t = nI 7
  · subst ht7
    refine am_mt ⟨by decide +kernel, rfl⟩ (Nat.le_of_ble_eq_true rfl) rfl ?_
    refine rn_iload_n dX7_about_0 rfl rfl ?_
    refine rn_tableIn (off := 131) (tgt := 132) dX7_about_1 (by decide) (by decide) (by decide) (by decide) ?_
    refine rn_aload_n dX7_about_132 rfl rfl ?_
    refine rn_getR (r := 16) dX7_about_133 fd_7_57 (sk_l hs 0 (by decide)) (sk_k0 hs) rfl (sk_r0_6 hs) ?_
    refine rn_getI dX7_about_136 fd_7_159 (sk_l hs 16 (by decide)) (sk_k16 hs) rfl ?_
    refine rn_top (y := nI n) (hT) ?_
    refine rn_ireturn dX7_about_139 rfl (vp_nar_int _) ?_
    exact ⟨by rw [vAb_7], rfl, rfl⟩
  by_cases ht8 : t = nI 8
  · subst ht8
    refine am_mt ⟨by decide +kernel, rfl⟩ (Nat.le_of_ble_eq_true rfl) rfl ?_
    refine rn_iload_n dX7_about_0 rfl rfl ?_
    refine rn_tableIn (off := 139) (tgt := 140) dX7_about_1 (by decide) (by decide) (by decide) (by decide) ?_
    refine rn_aload_n dX7_about_140 rfl rfl ?_
    refine rn_getR (r := 1) dX7_about_141 fd_7_10 (sk_l hs 0 (by decide)) (sk_k0 hs) rfl (sk_r0_0 hs) ?_
    refine rn_callVq (st := []) dX7_about_144 cf_7_215 (c_X0_squareCount (sk_d1 hs) hD.1 hD.2.1 w8 h8) (by omega) (sk_d1 hs).1 (sk_d1 hs).2.1 rfl rfl (Nat.le_of_ble_eq_true rfl) ?_
    refine rn_ireturn dX7_about_147 rfl (vp_nar_int _) ?_
    exact ⟨by rw [vAb_8], rfl, rfl⟩
  have h9 : t.toInt < 0 ∨ 8 < t.toInt := by
    rw [z_eq, z_nI (by decide)] at ht0 ht1 ht2 ht3 ht4 ht5 ht6 ht7 ht8
    omega
  refine am_mt ⟨by decide +kernel, rfl⟩ (Nat.le_of_ble_eq_true rfl) rfl ?_
  refine rn_iload_n dX7_about_0 rfl rfl ?_
  refine rn_tableOut (tgt := 148) dX7_about_1 (h9) (by decide) ?_
  refine rn_iconst (v := (-1)) dX7_about_148 (by decide) ?_
  refine rn_ireturn dX7_about_149 rfl (vp_nar_int _) ?_
  exact ⟨by rw [vAb_n h9], rfl, rfl⟩
