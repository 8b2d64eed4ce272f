noncomputable def vLk (Sh : Nat → Option Dw) (D : Dw) (x t : Int32) : Int32 := if (0 ≤ x.toInt ∧ x.toInt ≤ 7) ∧ 0 ≤ t.toInt ∧ t.toInt ≤ 1 then (match Sh x.toInt.toNat with
  | none => -1
  | some K => if t = nI 0 then am_b (pb (eqD K D)) else am_b (pb (0 < wyN K D 4))) else -1
theorem vLk_n {Sh : Nat → Option Dw} {D : Dw} {x t : Int32} (h : ¬ ((0 ≤ x.toInt ∧ x.toInt ≤ 7) ∧ 0 ≤ t.toInt ∧ t.toInt ≤ 1)) : vLk Sh D x t = -1 := if_neg h
theorem vLk_e {Sh : Nat → Option Dw} {D : Dw} {k : Nat} {t : Int32} (hk : k < 8) (h : Sh k = none) : vLk Sh D (nI k) t = -1 := by
  unfold vLk
  split
  · rw [z_nI (by omega), Int.toNat_natCast, h]
  · rfl
theorem vLk_0 {Sh : Nat → Option Dw} {D K : Dw} {k : Nat} (hk : k < 8) (h : Sh k = some K) : vLk Sh D (nI k) (nI 0) = am_b (pb (eqD K D)) := by
  unfold vLk
  rw [if_pos (by rw [z_nI (by omega), z_nI (by decide)]; omega), z_nI (by omega), Int.toNat_natCast, h]
  exact if_pos rfl
theorem vLk_1 {Sh : Nat → Option Dw} {D K : Dw} {k : Nat} (hk : k < 8) (h : Sh k = some K) : vLk Sh D (nI k) (nI 1) = am_b (pb (0 < wyN K D 4)) := by
  unfold vLk
  rw [if_pos (by rw [z_nI (by omega), z_nI (by decide)]; omega), z_nI (by omega), Int.toNat_natCast, h]
  exact if_neg (by decide)
theorem sh_ne {S : am_S} (hs : sk S) {k c : Nat} (hk : k < 8) (h6 : S.2.2 6 k = some c) : 62 ≤ c ∧ c % 2 = 0 ∧ am_dr S c (c + 1) := hs.2.2.2.1 k c hk h6
set_option maxHeartbeats 1000000 in
set_option maxRecDepth 100000 in
theorem c_X7_like {S : am_S} (hs : sk S) {I : am_I} {D : Dw} (hO : okD D) (hD : isDD I 1 2 D) {Sh : Nat → Option Dw} (hS : ShX Sh S I) (x t : Int32) : am_Mt 4 Y_X7_like (0, 0) [.ref 0, .int x, .int t] S I (fun r S' I' => r = some (.int (vLk Sh D x t)) ∧ S' = S ∧ ∀ b, b ≠ 3 → b ≠ 4 → I' b = I b) := by
  by_cases hr : (0 ≤ x.toInt ∧ x.toInt ≤ 7) ∧ 0 ≤ t.toInt ∧ t.toInt ≤ 1
  · have ex := z_nat hr.1.1
    generalize hk : x.toInt.toNat = k at ex
    have hk8 : k < 8 := by omega
    clear hk
    subst ex
    have ht : t = nI 0 ∨ t = nI 1 := by rw [z_eq, z_eq, z_nI (by decide), z_nI (by decide)]; omega
    rcases hS.1 k hk8 with ⟨h6, h7⟩ | ⟨c, K, h6, h7, hcK⟩
    · refine am_mt ⟨by decide +kernel, rfl⟩ (Nat.le_of_ble_eq_true rfl) rfl ?_
      refine rn_iload_n dX7_like_0 rfl rfl ?_
      refine rn_if_ltN (tgt := 19) dX7_like_1 (by omega) (by decide) ?_
      refine rn_iload_n dX7_like_4 rfl rfl ?_
      refine rn_bipush (v := nI 8) dX7_like_5 (by decide) ?_
      refine rn_icmp_geN (tgt := 19) dX7_like_7 (by decide) (by omega) (by omega) (fun c_7 => ?_) (fun c_7 => ?_)
      · omega
      · refine rn_iload_n dX7_like_10 rfl rfl ?_
        refine rn_if_lt (tgt := 19) dX7_like_11 (by decide) (fun c_11 => ?_) (fun c_11 => ?_)
        · (simp only [z_lt, z_0] at *; omega)
        · refine rn_iload_n dX7_like_14 rfl rfl ?_
          refine rn_iconst (v := nI 1) dX7_like_15 (by decide) ?_
          refine rn_icmp_le (tgt := 21) dX7_like_16 (by decide) (fun c_16 => ?_) (fun c_16 => ?_)
          · refine rn_aload_n dX7_like_21 rfl rfl ?_
            refine rn_getR (r := 6) dX7_like_22 fd_7_36 (sk_l hs 0 (by decide)) (sk_k0 hs) rfl (sk_r0_3 hs) ?_
            refine rn_iload_n dX7_like_25 rfl rfl ?_
            refine rn_aaloadN dX7_like_26 (sk_l hs 6 (by decide)) (sk_k6 hs) (by omega) (by omega) ?_
            refine rn_topv (y := .null) (by rw [h6]; rfl) ?_
            refine rn_astore_nN (ls' := [some (.ref 0), some (.int (nI k)), some (.int t), some (.null), none]) dX7_like_27 rfl (by decide) rfl rfl ?_
            refine rn_aload_nN dX7_like_28 rfl rfl ?_
            refine rn_ifnonnullN dX7_like_29 ?_
            refine rn_iconst (v := (-1)) dX7_like_32 (by decide) ?_
            refine rn_ireturn dX7_like_33 rfl (vp_nar_int _) ?_
            exact ⟨by rw [vLk_e hk8 h7], rfl, fun _ _ _ => rfl⟩
          · (simp only [z_le, show (nI 1).toInt = 1 by decide] at *; omega)
    · have hdc := (sh_ne hs hk8 h6).2.2
      have hc62 := (sh_ne hs hk8 h6).1
      have hOK := hS.2 k K h7
      rcases ht with rfl | rfl
      · refine am_mt ⟨by decide +kernel, rfl⟩ (Nat.le_of_ble_eq_true rfl) rfl ?_
        refine rn_iload_n dX7_like_0 rfl rfl ?_
        refine rn_if_ltN (tgt := 19) dX7_like_1 (by omega) (by decide) ?_
        refine rn_iload_n dX7_like_4 rfl rfl ?_
        refine rn_bipush (v := nI 8) dX7_like_5 (by decide) ?_
        refine rn_icmp_geN (tgt := 19) dX7_like_7 (by decide) (by omega) (by omega) (fun c_7 => ?_) (fun c_7 => ?_)
        · omega
        · refine rn_iload_n dX7_like_10 rfl rfl ?_
          refine rn_if_ltN (tgt := 19) dX7_like_11 (by omega) (by decide) ?_
          refine rn_iload_n dX7_like_14 rfl rfl ?_
          refine rn_iconst (v := nI 1) dX7_like_15 (by decide) ?_
          refine rn_icmp_leN (tgt := 21) dX7_like_16 (by decide) (by omega) (by omega) (fun c_16 => ?_) (fun c_16 => ?_)
          · refine rn_aload_n dX7_like_21 rfl rfl ?_
            refine rn_getR (r := 6) dX7_like_22 fd_7_36 (sk_l hs 0 (by decide)) (sk_k0 hs) rfl (sk_r0_3 hs) ?_
            refine rn_iload_n dX7_like_25 rfl rfl ?_
            refine rn_aaloadN dX7_like_26 (sk_l hs 6 (by decide)) (sk_k6 hs) (by omega) (by omega) ?_
            refine rn_topv (y := .ref c) (by rw [h6]; rfl) ?_
            refine rn_astore_n (ls' := [some (.ref 0), some (.int (nI k)), some (.int (nI 0)), some (.ref c), none]) dX7_like_27 rfl (by decide) rfl rfl ?_
            refine rn_aload_n dX7_like_28 rfl rfl ?_
            refine rn_ifnonnull (tgt := 34) dX7_like_29 (by decide) ?_
            refine rn_iload_n dX7_like_34 rfl rfl ?_
            refine rn_if_neN (tgt := 49) dX7_like_35 (by decide) (by omega) (fun c_35 => ?_) (fun c_35 => ?_)
            · exact absurd c_35 (by decide)
            · refine rn_aload_n dX7_like_38 rfl rfl ?_
              refine rn_aload_n dX7_like_39 rfl rfl ?_
              refine rn_getR (r := 1) dX7_like_40 fd_7_10 (sk_l hs 0 (by decide)) (sk_k0 hs) rfl (sk_r0_0 hs) ?_
              refine rn_callVq (st := []) dX7_like_43 cf_7_198 (c_X0_isSameAs hdc hcK.1 hcK.2.1 hOK.1.2 hOK.2.1.2 (sk_d1 hs) hD.1 hD.2.1 hO.1.2 hO.2.1.2) (by omega) hdc.1 hdc.2.1 rfl rfl (Nat.le_of_ble_eq_true rfl) ?_
              refine rn_top (y := am_b (pb (eqD K D))) (congrArg am_b (pb_congr (eq_X hOK hO hcK hD))) ?_
              refine rn_goto (tgt := 62) dX7_like_46 (by decide) ?_
              refine rn_istore (ls' := [some (.ref 0), some (.int (nI k)), some (.int (nI 0)), some (.ref c), some (.int (am_b (pb (eqD K D))))]) dX7_like_62 (by decide) rfl rfl ?_
              refine rn_iload dX7_like_64 rfl ?_
              refine rn_if_eqB (tgt := 73) dX7_like_66 (by decide) (fun c_66 => ?_) (fun c_66 => ?_)
              · refine rn_iconst (v := nI 0) dX7_like_73 (by decide) ?_
                refine rn_ireturn dX7_like_74 rfl (vp_nar_int _) ?_
                exact ⟨by rw [vLk_0 hk8 h7, c_66]; rfl, rfl, fun _ _ _ => rfl⟩
              · refine rn_iconst (v := nI 1) dX7_like_69 (by decide) ?_
                refine rn_goto (tgt := 74) dX7_like_70 (by decide) ?_
                refine rn_ireturn dX7_like_74 rfl (vp_nar_int _) ?_
                exact ⟨by rw [vLk_0 hk8 h7, c_66]; rfl, rfl, fun _ _ _ => rfl⟩
          · exact absurd c_16 (by decide)
      · refine am_mt ⟨by decide +kernel, rfl⟩ (Nat.le_of_ble_eq_true rfl) rfl ?_
        refine rn_iload_n dX7_like_0 rfl rfl ?_
        refine rn_if_ltN (tgt := 19) dX7_like_1 (by omega) (by decide) ?_
        refine rn_iload_n dX7_like_4 rfl rfl ?_
        refine rn_bipush (v := nI 8) dX7_like_5 (by decide) ?_
        refine rn_icmp_geN (tgt := 19) dX7_like_7 (by decide) (by omega) (by omega) (fun c_7 => ?_) (fun c_7 => ?_)
        · omega
        · refine rn_iload_n dX7_like_10 rfl rfl ?_
          refine rn_if_ltN (tgt := 19) dX7_like_11 (by omega) (by decide) ?_
          refine rn_iload_n dX7_like_14 rfl rfl ?_
          refine rn_iconst (v := nI 1) dX7_like_15 (by decide) ?_
          refine rn_icmp_leN (tgt := 21) dX7_like_16 (by decide) (by omega) (by omega) (fun c_16 => ?_) (fun c_16 => ?_)
          · refine rn_aload_n dX7_like_21 rfl rfl ?_
            refine rn_getR (r := 6) dX7_like_22 fd_7_36 (sk_l hs 0 (by decide)) (sk_k0 hs) rfl (sk_r0_3 hs) ?_
            refine rn_iload_n dX7_like_25 rfl rfl ?_
            refine rn_aaloadN dX7_like_26 (sk_l hs 6 (by decide)) (sk_k6 hs) (by omega) (by omega) ?_
            refine rn_topv (y := .ref c) (by rw [h6]; rfl) ?_
            refine rn_astore_n (ls' := [some (.ref 0), some (.int (nI k)), some (.int (nI 1)), some (.ref c), none]) dX7_like_27 rfl (by decide) rfl rfl ?_
            refine rn_aload_n dX7_like_28 rfl rfl ?_
            refine rn_ifnonnull (tgt := 34) dX7_like_29 (by decide) ?_
            refine rn_iload_n dX7_like_34 rfl rfl ?_
            refine rn_if_neN (tgt := 49) dX7_like_35 (by decide) (by omega) (fun c_35 => ?_) (fun c_35 => ?_)
            · refine rn_aload_n dX7_like_49 rfl rfl ?_
              refine rn_aload_n dX7_like_50 rfl rfl ?_
              refine rn_callV0 (st := []) dX7_like_51 cf_7_201 (c_X7_waysFrom hs hdc (by omega) (by omega) (by omega) (by omega) hOK hO hcK hD) (by omega) (sk_l hs 0 (by decide)) (sk_k0 hs) rfl rfl (Nat.le_of_ble_eq_true rfl) (fun r1 S1 I1 hq => ?_)
              obtain ⟨rfl, rfl, hF1⟩ := hq
              have hl4 := wyN_le K D 4
              refine rn_if_leN (tgt := 61) dX7_like_54 (by decide) (by omega) (fun c_54 => ?_) (fun c_54 => ?_)
              · refine rn_iconst (v := nI 0) dX7_like_61 (by decide) ?_
                refine rn_istore (ls' := [some (.ref 0), some (.int (nI k)), some (.int (nI 1)), some (.ref c), some (.int (nI 0))]) dX7_like_62 (by decide) rfl rfl ?_
                refine rn_iload dX7_like_64 rfl ?_
                refine rn_if_eqN (tgt := 73) dX7_like_66 (by decide) (by omega) (fun c_66 => ?_) (fun c_66 => ?_)
                · refine rn_iconst (v := nI 0) dX7_like_73 (by decide) ?_
                  refine rn_ireturn dX7_like_74 rfl (vp_nar_int _) ?_
                  exact ⟨by rw [vLk_1 hk8 h7, pb_f (by omega)]; rfl, rfl, hF1⟩
                · exact absurd c_66 (by decide)
              · refine rn_iconst (v := nI 1) dX7_like_57 (by decide) ?_
                refine rn_goto (tgt := 62) dX7_like_58 (by decide) ?_
                refine rn_istore (ls' := [some (.ref 0), some (.int (nI k)), some (.int (nI 1)), some (.ref c), some (.int (nI 1))]) dX7_like_62 (by decide) rfl rfl ?_
                refine rn_iload dX7_like_64 rfl ?_
                refine rn_if_eqN (tgt := 73) dX7_like_66 (by decide) (by omega) (fun c_66 => ?_) (fun c_66 => ?_)
                · exact absurd c_66 (by decide)
                · refine rn_iconst (v := nI 1) dX7_like_69 (by decide) ?_
                  refine rn_goto (tgt := 74) dX7_like_70 (by decide) ?_
                  refine rn_ireturn dX7_like_74 rfl (vp_nar_int _) ?_
                  exact ⟨by rw [vLk_1 hk8 h7, pb_t c_54]; rfl, rfl, hF1⟩
            · exact absurd c_35 (by decide)
          · exact absurd c_16 (by decide)
  · refine am_mt ⟨by decide +kernel, rfl⟩ (Nat.le_of_ble_eq_true rfl) rfl ?_
    refine rn_iload_n dX7_like_0 rfl rfl ?_
    refine rn_if_lt (tgt := 19) dX7_like_1 (by decide) (fun c_1 => ?_) (fun c_1 => ?_)
    · refine rn_iconst (v := (-1)) dX7_like_19 (by decide) ?_
      refine rn_ireturn dX7_like_20 rfl (vp_nar_int _) ?_
      exact ⟨by rw [vLk_n hr], rfl, fun _ _ _ => rfl⟩
    · refine rn_iload_n dX7_like_4 rfl rfl ?_
      refine rn_bipush (v := nI 8) dX7_like_5 (by decide) ?_
      refine rn_icmp_ge (tgt := 19) dX7_like_7 (by decide) (fun c_7 => ?_) (fun c_7 => ?_)
      · refine rn_iconst (v := (-1)) dX7_like_19 (by decide) ?_
        refine rn_ireturn dX7_like_20 rfl (vp_nar_int _) ?_
        exact ⟨by rw [vLk_n hr], rfl, fun _ _ _ => rfl⟩
      · refine rn_iload_n dX7_like_10 rfl rfl ?_
        refine rn_if_lt (tgt := 19) dX7_like_11 (by decide) (fun c_11 => ?_) (fun c_11 => ?_)
        · refine rn_iconst (v := (-1)) dX7_like_19 (by decide) ?_
          refine rn_ireturn dX7_like_20 rfl (vp_nar_int _) ?_
          exact ⟨by rw [vLk_n hr], rfl, fun _ _ _ => rfl⟩
        · refine rn_iload_n dX7_like_14 rfl rfl ?_
          refine rn_iconst (v := nI 1) dX7_like_15 (by decide) ?_
          refine rn_icmp_le (tgt := 21) dX7_like_16 (by decide) (fun c_16 => ?_) (fun c_16 => ?_)
          · exact absurd (by simp only [z_lt, z_le, z_0, show (nI 8).toInt = 8 by decide, show (nI 1).toInt = 1 by decide] at *; omega) hr
          · refine rn_iconst (v := (-1)) dX7_like_19 (by decide) ?_
            refine rn_ireturn dX7_like_20 rfl (vp_nar_int _) ?_
            exact ⟨by rw [vLk_n hr], rfl, fun _ _ _ => rfl⟩
set_option maxHeartbeats 1000000 in
set_option maxRecDepth 100000 in
theorem c_X7_alike {S : am_S} (hs : sk S) {I : am_I} {D : Dw} (hO : okD D) (hD : isDD I 1 2 D) : am_Mt 4 Y_X7_alike (0, 0) [.ref 0] S I (fun r S' I' => r = some (.int (nI (wyN D D 4))) ∧ S' = S ∧ ∀ b, b ≠ 3 → b ≠ 4 → I' b = I b) := by
  refine am_mt ⟨by decide +kernel, rfl⟩ (Nat.le_of_ble_eq_true rfl) rfl ?_
  refine rn_aload_n dX7_alike_0 rfl rfl ?_
  refine rn_aload_n dX7_alike_1 rfl rfl ?_
  refine rn_getR (r := 1) dX7_alike_2 fd_7_10 (sk_l hs 0 (by decide)) (sk_k0 hs) rfl (sk_r0_0 hs) ?_
  refine rn_callV0 (st := []) dX7_alike_5 cf_7_201 (c_X7_waysFrom hs (sk_d1 hs) (by decide) (by decide) (by decide) (by decide) hO hO hD hD) (by omega) (sk_l hs 0 (by decide)) (sk_k0 hs) rfl rfl (Nat.le_of_ble_eq_true rfl) (fun r1 S1 I1 hq => ?_)
  obtain ⟨rfl, rfl, hF1⟩ := hq
  refine rn_ireturn dX7_alike_8 rfl (vp_nar_int _) ?_
  exact ⟨rfl, rfl, hF1⟩
set_option maxHeartbeats 1000000 in
set_option maxRecDepth 100000 in
theorem c_X8_like {S : am_S} (hs : sk S) {I : am_I} {D : Dw} (hO : okD D) (hD : grD I 0 D) {Sh : Nat → Option Dw} (hS : ShM Sh I) (x t : Int32) : am_Mt 4 Y_X8_like (0, 0) [.ref 44, .int x, .int t] S I (fun r S' I' => r = some (.int (vLk Sh D x t)) ∧ S' = S ∧ GF I I') := by
  by_cases hr : (0 ≤ x.toInt ∧ x.toInt ≤ 7) ∧ 0 ≤ t.toInt ∧ t.toInt ≤ 1
  · have ex := z_nat hr.1.1
    generalize hk : x.toInt.toNat = k at ex
    have hk8 : k < 8 := by omega
    clear hk
    subst ex
    have ht : t = nI 0 ∨ t = nI 1 := by rw [z_eq, z_eq, z_nI (by decide), z_nI (by decide)]; omega
    rcases hS.1 k hk8 with ⟨h6, h7⟩ | ⟨K, h7, hcK⟩
    · refine am_mt ⟨by decide +kernel, rfl⟩ (Nat.le_of_ble_eq_true rfl) rfl ?_
      refine rn_iload_n dX8_like_0 rfl rfl ?_
      refine rn_iconst (v := nI 0) dX8_like_1 (by decide) ?_
      refine rn_bipush (v := nI 7) dX8_like_2 (by decide) ?_
      refine rn_callSq (st := []) dX8_like_4 cf_8_70 (m_isInN _ _ (by omega) (by decide) (by decide)) (by omega) rfl rfl (Nat.le_of_ble_eq_true rfl) ?_
      refine rn_if_eqB (tgt := 30) dX8_like_7 (by decide) (fun c_7 => ?_) (fun c_7 => ?_)
      · exact absurd (by omega) (of_decide_eq_false c_7)
      · refine rn_aload_n dX8_like_10 rfl rfl ?_
        refine rn_getR (r := 45) dX8_like_11 fd_8_7 (sk_l hs 44 (by decide)) (sk_k44 hs) rfl (sk_r44_0 hs) ?_
        refine rn_iconst (v := nI 1) dX8_like_14 (by decide) ?_
        refine rn_iload_n dX8_like_15 rfl rfl ?_
        refine rn_iadd dX8_like_16 ?_
        refine rn_top (nI_add _ _) ?_
        refine rn_ialoadN dX8_like_17 (sk_l hs 45 (by decide)) (sk_k45 hs) (by omega) (by omega) ?_
        refine rn_top (y := nI 0) (h6) ?_
        refine rn_if_eqN (tgt := 30) dX8_like_18 (by decide) (by omega) (fun c_18 => ?_) (fun c_18 => ?_)
        · refine rn_iconst (v := (-1)) dX8_like_30 (by decide) ?_
          refine rn_ireturn dX8_like_31 rfl (vp_nar_int _) ?_
          exact ⟨by rw [vLk_e hk8 h7], rfl, GF.rf⟩
        · exact absurd c_18 (by decide)
    · have hOK := hS.2 k K h7
      have hw1 := hOK.1.1
      have hw8 := hOK.1.2
      rcases ht with rfl | rfl
      · refine am_mt ⟨by decide +kernel, rfl⟩ (Nat.le_of_ble_eq_true rfl) rfl ?_
        refine rn_iload_n dX8_like_0 rfl rfl ?_
        refine rn_iconst (v := nI 0) dX8_like_1 (by decide) ?_
        refine rn_bipush (v := nI 7) dX8_like_2 (by decide) ?_
        refine rn_callSq (st := []) dX8_like_4 cf_8_70 (m_isInN _ _ (by omega) (by decide) (by decide)) (by omega) rfl rfl (Nat.le_of_ble_eq_true rfl) ?_
        refine rn_if_eqB (tgt := 30) dX8_like_7 (by decide) (fun c_7 => ?_) (fun c_7 => ?_)
        · exact absurd (by omega) (of_decide_eq_false c_7)
        · refine rn_aload_n dX8_like_10 rfl rfl ?_
          refine rn_getR (r := 45) dX8_like_11 fd_8_7 (sk_l hs 44 (by decide)) (sk_k44 hs) rfl (sk_r44_0 hs) ?_
          refine rn_iconst (v := nI 1) dX8_like_14 (by decide) ?_
          refine rn_iload_n dX8_like_15 rfl rfl ?_
          refine rn_iadd dX8_like_16 ?_
          refine rn_top (nI_add _ _) ?_
          refine rn_ialoadN dX8_like_17 (sk_l hs 45 (by decide)) (sk_k45 hs) (by omega) (by omega) ?_
          refine rn_top (y := nI K.1) (hcK.1) ?_
          refine rn_if_eqN (tgt := 30) dX8_like_18 (by decide) (by omega) (fun c_18 => ?_) (fun c_18 => ?_)
          · omega
          · refine rn_iload_n dX8_like_21 rfl rfl ?_
            refine rn_iconst (v := nI 0) dX8_like_22 (by decide) ?_
            refine rn_iconst (v := nI 1) dX8_like_23 (by decide) ?_
            refine rn_callSq (st := []) dX8_like_24 cf_8_70 (m_isInN _ _ (by omega) (by decide) (by decide)) (by omega) rfl rfl (Nat.le_of_ble_eq_true rfl) ?_
            refine rn_if_neB (tgt := 32) dX8_like_27 (by decide) (fun c_27 => ?_) (fun c_27 => ?_)
            · refine rn_iload_n dX8_like_32 rfl rfl ?_
              refine rn_if_neN (tgt := 50) dX8_like_33 (by decide) (by omega) (fun c_33 => ?_) (fun c_33 => ?_)
              · exact absurd c_33 (by decide)
              · refine rn_aload_n dX8_like_36 rfl rfl ?_
                refine rn_iconst (v := nI 0) dX8_like_37 (by decide) ?_
                refine rn_iconst (v := nI 1) dX8_like_38 (by decide) ?_
                refine rn_iload_n dX8_like_39 rfl rfl ?_
                refine rn_iadd dX8_like_40 ?_
                refine rn_top (nI_add _ _) ?_
                refine rn_callVq (st := []) dX8_like_41 cf_8_233 (c_X8_isSame hs (f := 0) (g := 1 + k) (by decide) (by omega) hD.1 hD.2.1 hcK.1 hcK.2.1 hO.1.2 hO.2.1.2 hOK.1.2 hOK.2.1.2) (by omega) (sk_l hs 44 (by decide)) (sk_k44 hs) rfl rfl (Nat.le_of_ble_eq_true rfl) ?_
                refine rn_top (y := am_b (pb (eqD K D))) (congrArg am_b ((pb_congr (eq_M hO hOK hD hcK)).trans (pb_congr ⟨eqD.symm, eqD.symm⟩))) ?_
                refine rn_if_eqB (tgt := 64) dX8_like_44 (by decide) (fun c_44 => ?_) (fun c_44 => ?_)
                · refine rn_iconst (v := nI 0) dX8_like_64 (by decide) ?_
                  refine rn_ireturn dX8_like_65 rfl (vp_nar_int _) ?_
                  exact ⟨by rw [vLk_0 hk8 h7, c_44]; rfl, rfl, GF.rf⟩
                · refine rn_goto (tgt := 60) dX8_like_47 (by decide) ?_
                  refine rn_iconst (v := nI 1) dX8_like_60 (by decide) ?_
                  refine rn_goto (tgt := 65) dX8_like_61 (by decide) ?_
                  refine rn_ireturn dX8_like_65 rfl (vp_nar_int _) ?_
                  exact ⟨by rw [vLk_0 hk8 h7, c_44]; rfl, rfl, GF.rf⟩
            · exact absurd c_27 (by decide)
      · refine am_mt ⟨by decide +kernel, rfl⟩ (Nat.le_of_ble_eq_true rfl) rfl ?_
        refine rn_iload_n dX8_like_0 rfl rfl ?_
        refine rn_iconst (v := nI 0) dX8_like_1 (by decide) ?_
        refine rn_bipush (v := nI 7) dX8_like_2 (by decide) ?_
        refine rn_callSq (st := []) dX8_like_4 cf_8_70 (m_isInN _ _ (by omega) (by decide) (by decide)) (by omega) rfl rfl (Nat.le_of_ble_eq_true rfl) ?_
        refine rn_if_eqB (tgt := 30) dX8_like_7 (by decide) (fun c_7 => ?_) (fun c_7 => ?_)
        · exact absurd (by omega) (of_decide_eq_false c_7)
        · refine rn_aload_n dX8_like_10 rfl rfl ?_
          refine rn_getR (r := 45) dX8_like_11 fd_8_7 (sk_l hs 44 (by decide)) (sk_k44 hs) rfl (sk_r44_0 hs) ?_
          refine rn_iconst (v := nI 1) dX8_like_14 (by decide) ?_
          refine rn_iload_n dX8_like_15 rfl rfl ?_
          refine rn_iadd dX8_like_16 ?_
          refine rn_top (nI_add _ _) ?_
          refine rn_ialoadN dX8_like_17 (sk_l hs 45 (by decide)) (sk_k45 hs) (by omega) (by omega) ?_
          refine rn_top (y := nI K.1) (hcK.1) ?_
          refine rn_if_eqN (tgt := 30) dX8_like_18 (by decide) (by omega) (fun c_18 => ?_) (fun c_18 => ?_)
          · omega
          · refine rn_iload_n dX8_like_21 rfl rfl ?_
            refine rn_iconst (v := nI 0) dX8_like_22 (by decide) ?_
            refine rn_iconst (v := nI 1) dX8_like_23 (by decide) ?_
            refine rn_callSq (st := []) dX8_like_24 cf_8_70 (m_isInN _ _ (by omega) (by decide) (by decide)) (by omega) rfl rfl (Nat.le_of_ble_eq_true rfl) ?_
            refine rn_if_neB (tgt := 32) dX8_like_27 (by decide) (fun c_27 => ?_) (fun c_27 => ?_)
            · refine rn_iload_n dX8_like_32 rfl rfl ?_
              refine rn_if_neN (tgt := 50) dX8_like_33 (by decide) (by omega) (fun c_33 => ?_) (fun c_33 => ?_)
              · refine rn_aload_n dX8_like_50 rfl rfl ?_
                refine rn_iconst (v := nI 1) dX8_like_51 (by decide) ?_
                refine rn_iload_n dX8_like_52 rfl rfl ?_
                refine rn_iadd dX8_like_53 ?_
                refine rn_top (nI_add _ _) ?_
                refine rn_callV0 (st := []) dX8_like_54 cf_8_236 (c_X8_ways hs (g := 1 + k) (by omega) hOK hO hcK hD) (by omega) (sk_l hs 44 (by decide)) (sk_k44 hs) rfl rfl (Nat.le_of_ble_eq_true rfl) (fun r1 S1 I1 hq => ?_)
                obtain ⟨rfl, rfl, hF1⟩ := hq
                have hl4 := wyN_le D K 4
                refine rn_if_leN (tgt := 64) dX8_like_57 (by decide) (by omega) (fun c_57 => ?_) (fun c_57 => ?_)
                · refine rn_iconst (v := nI 0) dX8_like_64 (by decide) ?_
                  refine rn_ireturn dX8_like_65 rfl (vp_nar_int _) ?_
                  exact ⟨by rw [vLk_1 hk8 h7, pb_f (fun q => absurd ((wy_sym hOK hO).mp q) (by omega))]; rfl, rfl, hF1⟩
                · refine rn_iconst (v := nI 1) dX8_like_60 (by decide) ?_
                  refine rn_goto (tgt := 65) dX8_like_61 (by decide) ?_
                  refine rn_ireturn dX8_like_65 rfl (vp_nar_int _) ?_
                  exact ⟨by rw [vLk_1 hk8 h7, pb_t ((wy_sym hOK hO).mpr c_57)]; rfl, rfl, hF1⟩
              · exact absurd c_33 (by decide)
            · exact absurd c_27 (by decide)
  · by_cases hx : 0 ≤ x.toInt ∧ x.toInt ≤ 7
    · have ex := z_nat hx.1
      generalize hk : x.toInt.toNat = k at ex
      have hk8 : k < 8 := by omega
      clear hk
      subst ex
      refine am_mt ⟨by decide +kernel, rfl⟩ (Nat.le_of_ble_eq_true rfl) rfl ?_
      refine rn_iload_n dX8_like_0 rfl rfl ?_
      refine rn_iconst (v := nI 0) dX8_like_1 (by decide) ?_
      refine rn_bipush (v := nI 7) dX8_like_2 (by decide) ?_
      refine rn_callSq (st := []) dX8_like_4 cf_8_70 (m_isInN _ _ (by omega) (by decide) (by decide)) (by omega) rfl rfl (Nat.le_of_ble_eq_true rfl) ?_
      refine rn_if_eqB (tgt := 30) dX8_like_7 (by decide) (fun c_7 => ?_) (fun c_7 => ?_)
      · exact absurd (by omega) (of_decide_eq_false c_7)
      · refine rn_aload_n dX8_like_10 rfl rfl ?_
        refine rn_getR (r := 45) dX8_like_11 fd_8_7 (sk_l hs 44 (by decide)) (sk_k44 hs) rfl (sk_r44_0 hs) ?_
        refine rn_iconst (v := nI 1) dX8_like_14 (by decide) ?_
        refine rn_iload_n dX8_like_15 rfl rfl ?_
        refine rn_iadd dX8_like_16 ?_
        refine rn_top (nI_add _ _) ?_
        refine rn_ialoadN dX8_like_17 (sk_l hs 45 (by decide)) (sk_k45 hs) (by omega) (by omega) ?_
        refine rn_if_eq (tgt := 30) dX8_like_18 (by decide) (fun c_18 => ?_) (fun c_18 => ?_)
        · refine rn_iconst (v := (-1)) dX8_like_30 (by decide) ?_
          refine rn_ireturn dX8_like_31 rfl (vp_nar_int _) ?_
          exact ⟨by rw [vLk_n hr], rfl, GF.rf⟩
        · refine rn_iload_n dX8_like_21 rfl rfl ?_
          refine rn_iconst (v := nI 0) dX8_like_22 (by decide) ?_
          refine rn_iconst (v := nI 1) dX8_like_23 (by decide) ?_
          refine rn_callSq (st := []) dX8_like_24 cf_8_70 (c_X8_isIn S I _ _ _) (by omega) rfl rfl (Nat.le_of_ble_eq_true rfl) ?_
          refine rn_if_neB (tgt := 32) dX8_like_27 (by decide) (fun c_27 => ?_) (fun c_27 => ?_)
          · have q := of_decide_eq_true c_27
            rw [z_nI (by decide), z_nI (by decide)] at q
            exact absurd ⟨hx, q⟩ hr
          · refine rn_iconst (v := (-1)) dX8_like_30 (by decide) ?_
            refine rn_ireturn dX8_like_31 rfl (vp_nar_int _) ?_
            exact ⟨by rw [vLk_n hr], rfl, GF.rf⟩
    · refine am_mt ⟨by decide +kernel, rfl⟩ (Nat.le_of_ble_eq_true rfl) rfl ?_
      refine rn_iload_n dX8_like_0 rfl rfl ?_
      refine rn_iconst (v := nI 0) dX8_like_1 (by decide) ?_
      refine rn_bipush (v := nI 7) dX8_like_2 (by decide) ?_
      refine rn_callSq (st := []) dX8_like_4 cf_8_70 (c_X8_isIn S I _ _ _) (by omega) rfl rfl (Nat.le_of_ble_eq_true rfl) ?_
      refine rn_if_eqB (tgt := 30) dX8_like_7 (by decide) (fun c_7 => ?_) (fun c_7 => ?_)
      · refine rn_iconst (v := (-1)) dX8_like_30 (by decide) ?_
        refine rn_ireturn dX8_like_31 rfl (vp_nar_int _) ?_
        exact ⟨by rw [vLk_n hr], rfl, GF.rf⟩
      · have q := of_decide_eq_true c_7; rw [z_nI (by decide), z_nI (by decide)] at q; exact absurd q hx
set_option maxHeartbeats 1000000 in
set_option maxRecDepth 100000 in
theorem c_X8_alike {S : am_S} (hs : sk S) {I : am_I} {D : Dw} (hO : okD D) (hD : grD I 0 D) : am_Mt 4 Y_X8_alike (0, 0) [.ref 44] S I (fun r S' I' => r = some (.int (nI (wyN D D 4))) ∧ S' = S ∧ GF I I') := by
  refine am_mt ⟨by decide +kernel, rfl⟩ (Nat.le_of_ble_eq_true rfl) rfl ?_
  refine rn_aload_n dX8_alike_0 rfl rfl ?_
  refine rn_iconst (v := nI 0) dX8_alike_1 (by decide) ?_
  refine rn_callV0 (st := []) dX8_alike_2 cf_8_236 (c_X8_ways hs (g := 0) (by decide) hO hO hD hD) (by omega) (sk_l hs 44 (by decide)) (sk_k44 hs) rfl rfl (Nat.le_of_ble_eq_true rfl) (fun r1 S1 I1 hq => ?_)
  obtain ⟨rfl, rfl, hF1⟩ := hq
  refine rn_ireturn dX8_alike_5 rfl (vp_nar_int _) ?_
  exact ⟨rfl, rfl, hF1⟩
set_option maxHeartbeats 1000000 in
set_option maxRecDepth 100000 in
theorem c_X8_keep_y {S : am_S} (hs : sk S) {I : am_I} {D : Dw} (hO : okD D) (hD : grD I 0 D) {k : Nat} (hk : k < 8) : am_Mt 4 Y_X8_keep (0, 0) [.ref 44, .int (nI k)] S I (fun r S' I' => r = some (.int (nI 1)) ∧ S' = S ∧ grD I' (1 + k) D ∧ gfr (fun x => x = 1 + k) I I') := by
  refine am_mt ⟨by decide +kernel, rfl⟩ (Nat.le_of_ble_eq_true rfl) rfl ?_
  refine rn_iload_n dX8_keep_0 rfl rfl ?_
  refine rn_iconst (v := nI 0) dX8_keep_1 (by decide) ?_
  refine rn_bipush (v := nI 7) dX8_keep_2 (by decide) ?_
  refine rn_callSq (st := []) dX8_keep_4 cf_8_70 (m_isInN _ _ (by omega) (by decide) (by decide)) (by omega) rfl rfl (Nat.le_of_ble_eq_true rfl) ?_
  refine rn_if_neB (tgt := 12) dX8_keep_7 (by decide) (fun c_7 => ?_) (fun c_7 => ?_)
  · refine rn_aload_n dX8_keep_12 rfl rfl ?_
    refine rn_iconst (v := nI 0) dX8_keep_13 (by decide) ?_
    refine rn_iconst (v := nI 1) dX8_keep_14 (by decide) ?_
    refine rn_iload_n dX8_keep_15 rfl rfl ?_
    refine rn_iadd dX8_keep_16 ?_
    refine rn_top (nI_add _ _) ?_
    refine rn_callV0 (st := []) dX8_keep_17 cf_8_128 (m_copyD hs (f := 0) (g := 1 + k) (by decide) (by omega) (by omega) hO hD) (by omega) (sk_l hs 44 (by decide)) (sk_k44 hs) rfl rfl (Nat.le_of_ble_eq_true rfl) (fun r1 S1 I1 hq => ?_)
    obtain ⟨rfl, rfl, hD1, hF1⟩ := hq
    refine rn_iconst (v := nI 1) dX8_keep_20 (by decide) ?_
    refine rn_ireturn dX8_keep_21 rfl (by decide) ?_
    exact ⟨rfl, rfl, hD1, hF1⟩
  · exact absurd (by omega) (of_decide_eq_false c_7)
set_option maxHeartbeats 1000000 in
set_option maxRecDepth 100000 in
theorem c_X8_keep_n {S : am_S} {I : am_I} {x : Int32} (hn : ¬ (0 ≤ x.toInt ∧ x.toInt ≤ 7)) : am_Mt 4 Y_X8_keep (0, 0) [.ref 44, .int x] S I (am_q (some (.int (nI 0))) S I) := by
  refine am_mt ⟨by decide +kernel, rfl⟩ (Nat.le_of_ble_eq_true rfl) rfl ?_
  refine rn_iload_n dX8_keep_0 rfl rfl ?_
  refine rn_iconst (v := nI 0) dX8_keep_1 (by decide) ?_
  refine rn_bipush (v := nI 7) dX8_keep_2 (by decide) ?_
  refine rn_callSq (st := []) dX8_keep_4 cf_8_70 (c_X8_isIn S I _ _ _) (by omega) rfl rfl (Nat.le_of_ble_eq_true rfl) ?_
  refine rn_if_neB (tgt := 12) dX8_keep_7 (by decide) (fun c_7 => ?_) (fun c_7 => ?_)
  · have q := of_decide_eq_true c_7; rw [z_nI (by decide), z_nI (by decide)] at q; exact absurd q hn
  · refine rn_iconst (v := nI 0) dX8_keep_10 (by decide) ?_
    refine rn_ireturn dX8_keep_11 rfl (by decide) ?_
    exact ⟨rfl, rfl, rfl⟩
