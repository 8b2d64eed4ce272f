/-- the class's drawing, and its lines where they are known -/
def XL (w h : Nat) (M : Nat → Nat → Nat) (I : am_I) : Prop := isDr I 1 2 w h M ∧ (I 0 9 = nI 0 ∨ (I 0 9 = nI 1 ∧ LX w h M I 8 9 10 11 ∧ I 7 0 = nI (lcnt w h M)))
/-- the lines are known from now on, all else is as it was -/
def KN (w h : Nat) (M : Nat → Nat → Nat) (I I' : am_I) : Prop := (∀ b, b ≠ 0 → b ≠ 7 → b ≠ 8 → b ≠ 9 → b ≠ 10 → b ≠ 11 → I' b = I b) ∧ (∀ k, k ≠ 9 → I' 0 k = I 0 k) ∧ I' 0 9 = nI 1 ∧ LX w h M I' 8 9 10 11 ∧ I' 7 0 = nI (lcnt w h M)
/-- no more than that may have changed -/
def KW (w h : Nat) (M : Nat → Nat → Nat) (I I' : am_I) : Prop := (∀ b, b ≠ 0 → b ≠ 7 → b ≠ 8 → b ≠ 9 → b ≠ 10 → b ≠ 11 → I' b = I b) ∧ (∀ k, k ≠ 9 → I' 0 k = I 0 k) ∧ XL w h M I'
theorem KN.dr {w h : Nat} {M : Nat → Nat → Nat} {I I' : am_I} (hK : KN w h M I I') (hX : XL w h M I) : isDr I' 1 2 w h M := hX.1.kept (hK.1 1 (by decide) (by decide) (by decide) (by decide) (by decide) (by decide)) (hK.1 2 (by decide) (by decide) (by decide) (by decide) (by decide) (by decide))
theorem KN.kw {w h : Nat} {M : Nat → Nat → Nat} {I I' : am_I} (hK : KN w h M I I') (hX : XL w h M I) : KW w h M I I' := ⟨hK.1, hK.2.1, hK.dr hX, Or.inr hK.2.2⟩
theorem KW.rf {w h : Nat} {M : Nat → Nat → Nat} {I : am_I} (hX : XL w h M I) : KW w h M I I := ⟨fun _ _ _ _ _ _ _ => rfl, fun _ _ => rfl, hX⟩
/-- the reference: only the rows of lines may have changed -/
def KM (I I' : am_I) : Prop := (∀ b, b ≠ 44 → b ≠ 49 → b ≠ 50 → b ≠ 51 → b ≠ 52 → I' b = I b) ∧ ∀ k, k ≠ 4 → I' 44 k = I 44 k
theorem KM.rf {I : am_I} : KM I I := ⟨fun _ _ _ _ _ _ => rfl, fun _ _ => rfl⟩
theorem KM.gr {I I' : am_I} {g w h : Nat} {M : Nat → Nat → Nat} (hK : KM I I') (hI : isGr I g w h M) : isGr I' g w h M := ⟨by rw [hK.1 45 (by decide) (by decide) (by decide) (by decide) (by decide)]; exact hI.1, by rw [hK.1 46 (by decide) (by decide) (by decide) (by decide) (by decide)]; exact hI.2.1, fun i j hi hj => by rw [hK.1 47 (by decide) (by decide) (by decide) (by decide) (by decide)]; exact hI.2.2 i j hi hj⟩
set_option maxHeartbeats 1000000 in
set_option maxRecDepth 100000 in
theorem c_X7_knowLines {S : am_S} (hs : sk S) {I : am_I} {w h : Nat} {M : Nat → Nat → Nat} (w1 : 1 ≤ w) (w8 : w ≤ 8) (h1 : 1 ≤ h) (h8 : h ≤ 8) (hok : okM w h M) (hX : XL w h M I) : am_Mt 4 Y_X7_knowLines (0, 0) [.ref 0] S I (fun r S' I' => r = none ∧ S' = S ∧ KN w h M I I') := by
  obtain ⟨hD, h9 | ⟨h9, hL, hn⟩⟩ := hX
  · refine am_mt ⟨by decide +kernel, rfl⟩ (Nat.le_of_ble_eq_true rfl) rfl ?_
    refine rn_aload_n dX7_knowLines_0 rfl rfl ?_
    refine rn_getI dX7_knowLines_1 fd_7_79 (sk_l hs 0 (by decide)) (sk_k0 hs) rfl ?_
    refine rn_top (y := nI 0) (h9) ?_
    refine rn_if_neN (tgt := 23) dX7_knowLines_4 (by decide) (by omega) (fun c_4 => ?_) (fun c_4 => ?_)
    · exact absurd c_4 (by decide)
    · refine rn_aload_n dX7_knowLines_7 rfl rfl ?_
      refine rn_getR (r := 7) dX7_knowLines_8 fd_7_43 (sk_l hs 0 (by decide)) (sk_k0 hs) rfl (sk_r0_4 hs) ?_
      refine rn_aload_n dX7_knowLines_11 rfl rfl ?_
      refine rn_getR (r := 1) dX7_knowLines_12 fd_7_10 (sk_l hs 0 (by decide)) (sk_k0 hs) rfl (sk_r0_0 hs) ?_
      refine rn_callV0 (st := []) dX7_knowLines_15 cf_7_218 (c_X2_findAll hs w1 w8 h8 hok hD) (by decide) (sk_l hs 7 (by decide)) (sk_k7 hs) rfl rfl (Nat.le_of_ble_eq_true rfl) (fun r1 S1 I1 hq => ?_)
      obtain ⟨rfl, rfl, hF⟩ := hq
      refine rn_aload_n dX7_knowLines_18 rfl rfl ?_
      refine rn_iconst (v := nI 1) dX7_knowLines_19 (by decide) ?_
      refine rn_putI dX7_knowLines_20 fd_7_79 (sk_l hs 0 (by decide)) (sk_k0 hs) rfl rfl (by decide) (by decide) ?_
      refine rn_return dX7_knowLines_23 rfl ?_
      refine ⟨rfl, rfl, fun b b0 b7 b8 b9 b10 b11 => ?_, fun k hk => ?_, ?_, ?_, ?_⟩
      · rw [am_up_a _ _ b0]; exact hF.2.2.2 b b7 b8 b9 b10 b11
      · rw [am_up_k _ _ hk]; rw [hF.2.2.2 0 (by decide) (by decide) (by decide) (by decide) (by decide)]
      · rw [am_up_at]
      · exact (LX_of w1 hF.1 hF.2.2.1).moved (am_up_a _ _ (by decide)) (am_up_a _ _ (by decide)) (am_up_a _ _ (by decide)) (am_up_a _ _ (by decide))
      · rw [am_up_a _ _ (by decide)]; exact hF.2.1
  · refine am_mt ⟨by decide +kernel, rfl⟩ (Nat.le_of_ble_eq_true rfl) rfl ?_
    refine rn_aload_n dX7_knowLines_0 rfl rfl ?_
    refine rn_getI dX7_knowLines_1 fd_7_79 (sk_l hs 0 (by decide)) (sk_k0 hs) rfl ?_
    refine rn_top (y := nI 1) (h9) ?_
    refine rn_if_neN (tgt := 23) dX7_knowLines_4 (by decide) (by omega) (fun c_4 => ?_) (fun c_4 => ?_)
    · refine rn_return dX7_knowLines_23 rfl ?_
      exact ⟨rfl, rfl, fun _ _ _ _ _ _ _ => rfl, fun _ _ => rfl, h9, hL, hn⟩
    · exact absurd c_4 (by decide)
theorem FB_km {w h : Nat} {M : Nat → Nat → Nat} {I I' : am_I} {s : Nat} (hF : FB w h M I I' s) : KM I I' := ⟨hF.2.2.1, hF.2.2.2⟩
set_option maxHeartbeats 1000000 in
set_option maxRecDepth 100000 in
theorem c_X7_lines {S : am_S} (hs : sk S) {I : am_I} {w h : Nat} {M : Nat → Nat → Nat} (w1 : 1 ≤ w) (w8 : w ≤ 8) (h1 : 1 ≤ h) (h8 : h ≤ 8) (hok : okM w h M) (hX : XL w h M I) : am_Mt 5 Y_X7_lines (0, 0) [.ref 0] S I (fun r S' I' => r = some (.int (nI (lcnt w h M))) ∧ S' = S ∧ KW w h M I I') := by
  have h256 := sq_bound w8 h8
  have hcn := lcnt_le (h := h) (M := M) w1
  refine am_mt ⟨by decide +kernel, rfl⟩ (Nat.le_of_ble_eq_true rfl) rfl ?_
  refine rn_aload_n dX7_lines_0 rfl rfl ?_
  refine rn_callV0 (st := []) dX7_lines_1 cf_7_103 (c_X7_knowLines hs w1 w8 h1 h8 hok hX) (by decide) (sk_l hs 0 (by decide)) (sk_k0 hs) rfl rfl (Nat.le_of_ble_eq_true rfl) (fun r1 S1 I1 hq => ?_)
  obtain ⟨rfl, rfl, hK⟩ := hq
  have hD1 := hK.dr hX
  refine rn_aload_n dX7_lines_4 rfl rfl ?_
  refine rn_getR (r := 7) dX7_lines_5 fd_7_43 (sk_l hs 0 (by decide)) (sk_k0 hs) rfl (sk_r0_4 hs) ?_
  refine rn_getI dX7_lines_8 fd_7_106 (sk_l hs 7 (by decide)) (sk_k7 hs) rfl ?_
  refine rn_top (y := nI (lcnt w h M)) (hK.2.2.2.2) ?_
  refine rn_ireturn dX7_lines_11 rfl (vp_nar_int _) ?_
  exact ⟨rfl, rfl, hK.kw hX⟩
set_option maxHeartbeats 1000000 in
set_option maxRecDepth 100000 in
theorem c_X8_lines {S : am_S} (hs : sk S) {I : am_I} {w h : Nat} {M : Nat → Nat → Nat} (w1 : 1 ≤ w) (w8 : w ≤ 8) (h1 : 1 ≤ h) (h8 : h ≤ 8) (hok : okM w h M) (hG : isGr I 0 w h M) : am_Mt 5 Y_X8_lines (0, 0) [.ref 44] S I (fun r S' I' => r = some (.int (nI (lcnt w h M))) ∧ S' = S ∧ KM I I') := by
  have h256 := sq_bound w8 h8
  have hcn := lcnt_le (h := h) (M := M) w1
  refine am_mt ⟨by decide +kernel, rfl⟩ (Nat.le_of_ble_eq_true rfl) rfl ?_
  refine rn_aload_n dX8_lines_0 rfl rfl ?_
  refine rn_callV0 (st := []) dX8_lines_1 cf_8_92 (c_X8_walkAll hs w1 w8 h1 h8 hok hG) (by decide) (sk_l hs 44 (by decide)) (sk_k44 hs) rfl rfl (Nat.le_of_ble_eq_true rfl) (fun r1 S1 I1 hq => ?_)
  obtain ⟨rfl, rfl, hF, hE⟩ := hq
  have hLX := LX_of w1 hF.1 hE
  have hKM := FB_km hF
  have hn1 : I1 44 4 = nI (lcnt w h M) := hF.2.1
  refine rn_aload_n dX8_lines_4 rfl rfl ?_
  refine rn_getI dX8_lines_5 fd_8_85 (sk_l hs 44 (by decide)) (sk_k44 hs) rfl ?_
  refine rn_top (y := nI (lcnt w h M)) (hn1) ?_
  refine rn_ireturn dX8_lines_8 rfl (vp_nar_int _) ?_
  exact ⟨rfl, rfl, hKM⟩
noncomputable def vLineOf (w h : Nat) (M : Nat → Nat → Nat) (x : Int32) : Int32 := if 0 ≤ x.toInt ∧ x.toInt < ((4 * w * h : Nat) : Int) then nI (lnum w h M x.toInt.toNat) else -1
noncomputable def vColour (w h : Nat) (M : Nat → Nat → Nat) (x : Int32) : Int32 := if 0 ≤ x.toInt ∧ x.toInt < ((4 * w * h : Nat) : Int) then nI (lplc w h M x.toInt.toNat % 2) else -1
set_option maxHeartbeats 1000000 in
set_option maxRecDepth 100000 in
theorem c_X7_lineOf {S : am_S} (hs : sk S) {I : am_I} {w h : Nat} {M : Nat → Nat → Nat} (w1 : 1 ≤ w) (w8 : w ≤ 8) (h1 : 1 ≤ h) (h8 : h ≤ 8) (hok : okM w h M) (hX : XL w h M I) (x : Int32) : am_Mt 5 Y_X7_lineOf (0, 0) [.ref 0, .int x] S I (fun r S' I' => r = some (.int (vLineOf w h M x)) ∧ S' = S ∧ KW w h M I I') := by
  have h256 := sq_bound w8 h8
  have hcn := lcnt_le (h := h) (M := M) w1
  by_cases hin : 0 ≤ x.toInt ∧ x.toInt < ((4 * w * h : Nat) : Int)
  · obtain ⟨y, hy, rfl⟩ : ∃ y, y < 4 * w * h ∧ x = nI y := ⟨x.toInt.toNat, by omega, z_nat hin.1⟩
    have ey : (nI y).toInt.toNat = y := by rw [z_nI (by omega)]; omega
    unfold vLineOf
    rw [if_pos hin, ey]
    refine am_mt ⟨by decide +kernel, rfl⟩ (Nat.le_of_ble_eq_true rfl) rfl ?_
    refine rn_aload_n dX7_lineOf_0 rfl rfl ?_
    refine rn_getR (r := 1) dX7_lineOf_1 fd_7_10 (sk_l hs 0 (by decide)) (sk_k0 hs) rfl (sk_r0_0 hs) ?_
    refine rn_iload_n dX7_lineOf_4 rfl rfl ?_
    refine rn_callVq (st := []) dX7_lineOf_5 cf_7_110 (c_X0_isSquare (sk_d1 hs) hX.1.1 hX.1.2.1 w8 h8 _) (by decide) (sk_l hs 1 (by decide)) (sk_k1 hs) rfl rfl (Nat.le_of_ble_eq_true rfl) ?_
    refine rn_if_neB (tgt := 13) dX7_lineOf_8 (by decide) (fun c_8 => ?_) (fun c_8 => ?_)
    · refine rn_aload_n dX7_lineOf_13 rfl rfl ?_
      refine rn_callV0 (st := []) dX7_lineOf_14 cf_7_103 (c_X7_knowLines hs w1 w8 h1 h8 hok hX) (by decide) (sk_l hs 0 (by decide)) (sk_k0 hs) rfl rfl (Nat.le_of_ble_eq_true rfl) (fun r1 S1 I1 hq => ?_)
      obtain ⟨rfl, rfl, hK⟩ := hq
      have hD1 := hK.dr hX
      refine rn_aload_n dX7_lineOf_17 rfl rfl ?_
      refine rn_getR (r := 7) dX7_lineOf_18 fd_7_43 (sk_l hs 0 (by decide)) (sk_k0 hs) rfl (sk_r0_4 hs) ?_
      refine rn_iload_n dX7_lineOf_21 rfl rfl ?_
      refine rn_callVq (st := []) dX7_lineOf_22 cf_7_114 (c_X2_lineThrough hs (by omega)) (by decide) (sk_l hs 7 (by decide)) (sk_k7 hs) rfl rfl (Nat.le_of_ble_eq_true rfl) ?_
      refine rn_ireturn dX7_lineOf_25 rfl (vp_nar_int _) ?_
      exact ⟨by rw [(hK.2.2.2.1.1 y hy).1], rfl, hK.kw hX⟩
    · exact absurd c_8 (by rw [decide_eq_true hin]; decide)
  · unfold vLineOf
    rw [if_neg hin]
    refine am_mt ⟨by decide +kernel, rfl⟩ (Nat.le_of_ble_eq_true rfl) rfl ?_
    refine rn_aload_n dX7_lineOf_0 rfl rfl ?_
    refine rn_getR (r := 1) dX7_lineOf_1 fd_7_10 (sk_l hs 0 (by decide)) (sk_k0 hs) rfl (sk_r0_0 hs) ?_
    refine rn_iload_n dX7_lineOf_4 rfl rfl ?_
    refine rn_callVq (st := []) dX7_lineOf_5 cf_7_110 (c_X0_isSquare (sk_d1 hs) hX.1.1 hX.1.2.1 w8 h8 _) (by decide) (sk_l hs 1 (by decide)) (sk_k1 hs) rfl rfl (Nat.le_of_ble_eq_true rfl) ?_
    refine rn_if_neB (tgt := 13) dX7_lineOf_8 (by decide) (fun c_8 => ?_) (fun c_8 => ?_)
    · exact absurd (of_decide_eq_true c_8) hin
    · refine rn_iconst (v := (-1)) dX7_lineOf_11 (by decide) ?_
      refine rn_ireturn dX7_lineOf_12 rfl (vp_nar_int _) ?_
      exact ⟨rfl, rfl, KW.rf hX⟩
set_option maxHeartbeats 1000000 in
set_option maxRecDepth 100000 in
theorem c_X8_lineOf {S : am_S} (hs : sk S) {I : am_I} {w h : Nat} {M : Nat → Nat → Nat} (w1 : 1 ≤ w) (w8 : w ≤ 8) (h1 : 1 ≤ h) (h8 : h ≤ 8) (hok : okM w h M) (hG : isGr I 0 w h M) (x : Int32) : am_Mt 5 Y_X8_lineOf (0, 0) [.ref 44, .int x] S I (fun r S' I' => r = some (.int (vLineOf w h M x)) ∧ S' = S ∧ KM I I') := by
  have h256 := sq_bound w8 h8
  have hcn := lcnt_le (h := h) (M := M) w1
  by_cases hin : 0 ≤ x.toInt ∧ x.toInt < ((4 * w * h : Nat) : Int)
  · obtain ⟨y, hy, rfl⟩ : ∃ y, y < 4 * w * h ∧ x = nI y := ⟨x.toInt.toNat, by omega, z_nat hin.1⟩
    have ey : (nI y).toInt.toNat = y := by rw [z_nI (by omega)]; omega
    unfold vLineOf
    rw [if_pos hin, ey]
    refine am_mt ⟨by decide +kernel, rfl⟩ (Nat.le_of_ble_eq_true rfl) rfl ?_
    refine rn_aload_n dX8_lineOf_0 rfl rfl ?_
    refine rn_iload_n dX8_lineOf_1 rfl rfl ?_
    refine rn_callVq (st := []) dX8_lineOf_2 cf_8_95 (c_X8_isSquare hs hG.1 hG.2.1 w1 w8 h1 h8 _) (by decide) (sk_l hs 44 (by decide)) (sk_k44 hs) rfl rfl (Nat.le_of_ble_eq_true rfl) ?_
    refine rn_if_neB (tgt := 10) dX8_lineOf_5 (by decide) (fun c_5 => ?_) (fun c_5 => ?_)
    · refine rn_aload_n dX8_lineOf_10 rfl rfl ?_
      refine rn_callV0 (st := []) dX8_lineOf_11 cf_8_92 (c_X8_walkAll hs w1 w8 h1 h8 hok hG) (by decide) (sk_l hs 44 (by decide)) (sk_k44 hs) rfl rfl (Nat.le_of_ble_eq_true rfl) (fun r1 S1 I1 hq => ?_)
      obtain ⟨rfl, rfl, hF, hE⟩ := hq
      have hLX := LX_of w1 hF.1 hE
      have hKM := FB_km hF
      have hn1 : I1 44 4 = nI (lcnt w h M) := hF.2.1
      refine rn_aload_n dX8_lineOf_14 rfl rfl ?_
      refine rn_getR (r := 49) dX8_lineOf_15 fd_8_24 (sk_l hs 44 (by decide)) (sk_k44 hs) rfl (sk_r44_5 hs) ?_
      refine rn_iload_n dX8_lineOf_18 rfl rfl ?_
      refine rn_ialoadN dX8_lineOf_19 (sk_l hs 49 (by decide)) (sk_k49 hs) (by omega) (by omega) ?_
      refine rn_top (y := nI (lnum w h M y)) ((hLX.1 y hy).1) ?_
      refine rn_ireturn dX8_lineOf_20 rfl (vp_nar_int _) ?_
      exact ⟨rfl, rfl, hKM⟩
    · exact absurd c_5 (by rw [decide_eq_true hin]; decide)
  · unfold vLineOf
    rw [if_neg hin]
    refine am_mt ⟨by decide +kernel, rfl⟩ (Nat.le_of_ble_eq_true rfl) rfl ?_
    refine rn_aload_n dX8_lineOf_0 rfl rfl ?_
    refine rn_iload_n dX8_lineOf_1 rfl rfl ?_
    refine rn_callVq (st := []) dX8_lineOf_2 cf_8_95 (c_X8_isSquare hs hG.1 hG.2.1 w1 w8 h1 h8 _) (by decide) (sk_l hs 44 (by decide)) (sk_k44 hs) rfl rfl (Nat.le_of_ble_eq_true rfl) ?_
    refine rn_if_neB (tgt := 10) dX8_lineOf_5 (by decide) (fun c_5 => ?_) (fun c_5 => ?_)
    · exact absurd (of_decide_eq_true c_5) hin
    · refine rn_iconst (v := (-1)) dX8_lineOf_8 (by decide) ?_
      refine rn_ireturn dX8_lineOf_9 rfl (vp_nar_int _) ?_
      exact ⟨rfl, rfl, KM.rf⟩
set_option maxHeartbeats 1000000 in
set_option maxRecDepth 100000 in
theorem c_X7_colour {S : am_S} (hs : sk S) {I : am_I} {w h : Nat} {M : Nat → Nat → Nat} (w1 : 1 ≤ w) (w8 : w ≤ 8) (h1 : 1 ≤ h) (h8 : h ≤ 8) (hok : okM w h M) (hX : XL w h M I) (x : Int32) : am_Mt 5 Y_X7_colour (0, 0) [.ref 0, .int x] S I (fun r S' I' => r = some (.int (vColour w h M x)) ∧ S' = S ∧ KW w h M I I') := by
  have h256 := sq_bound w8 h8
  have hcn := lcnt_le (h := h) (M := M) w1
  by_cases hin : 0 ≤ x.toInt ∧ x.toInt < ((4 * w * h : Nat) : Int)
  · obtain ⟨y, hy, rfl⟩ : ∃ y, y < 4 * w * h ∧ x = nI y := ⟨x.toInt.toNat, by omega, z_nat hin.1⟩
    have ey : (nI y).toInt.toNat = y := by rw [z_nI (by omega)]; omega
    unfold vColour
    rw [if_pos hin, ey]
    refine am_mt ⟨by decide +kernel, rfl⟩ (Nat.le_of_ble_eq_true rfl) rfl ?_
    refine rn_aload_n dX7_colour_0 rfl rfl ?_
    refine rn_getR (r := 1) dX7_colour_1 fd_7_10 (sk_l hs 0 (by decide)) (sk_k0 hs) rfl (sk_r0_0 hs) ?_
    refine rn_iload_n dX7_colour_4 rfl rfl ?_
    refine rn_callVq (st := []) dX7_colour_5 cf_7_110 (c_X0_isSquare (sk_d1 hs) hX.1.1 hX.1.2.1 w8 h8 _) (by decide) (sk_l hs 1 (by decide)) (sk_k1 hs) rfl rfl (Nat.le_of_ble_eq_true rfl) ?_
    refine rn_if_neB (tgt := 13) dX7_colour_8 (by decide) (fun c_8 => ?_) (fun c_8 => ?_)
    · refine rn_aload_n dX7_colour_13 rfl rfl ?_
      refine rn_callV0 (st := []) dX7_colour_14 cf_7_103 (c_X7_knowLines hs w1 w8 h1 h8 hok hX) (by decide) (sk_l hs 0 (by decide)) (sk_k0 hs) rfl rfl (Nat.le_of_ble_eq_true rfl) (fun r1 S1 I1 hq => ?_)
      obtain ⟨rfl, rfl, hK⟩ := hq
      have hD1 := hK.dr hX
      refine rn_aload_n dX7_colour_17 rfl rfl ?_
      refine rn_getR (r := 7) dX7_colour_18 fd_7_43 (sk_l hs 0 (by decide)) (sk_k0 hs) rfl (sk_r0_4 hs) ?_
      refine rn_iload_n dX7_colour_21 rfl rfl ?_
      refine rn_callVq (st := []) dX7_colour_22 cf_7_143 (c_X2_placeInWalk hs (by omega)) (by decide) (sk_l hs 7 (by decide)) (sk_k7 hs) rfl rfl (Nat.le_of_ble_eq_true rfl) ?_
      refine rn_top (y := nI (lplc w h M y)) (hK.2.2.2.1.1 y hy).2 ?_
      have hpl := lplc_lt (M := M) w1 hy
      refine rn_iconst (v := nI 1) dX7_colour_25 (by decide) ?_
      refine rn_iand dX7_colour_26 ?_
      refine rn_ireturn dX7_colour_27 rfl (vp_nar_int _) ?_
      exact ⟨by rw [z_nand (by omega)], rfl, hK.kw hX⟩
    · exact absurd c_8 (by rw [decide_eq_true hin]; decide)
  · unfold vColour
    rw [if_neg hin]
    refine am_mt ⟨by decide +kernel, rfl⟩ (Nat.le_of_ble_eq_true rfl) rfl ?_
    refine rn_aload_n dX7_colour_0 rfl rfl ?_
    refine rn_getR (r := 1) dX7_colour_1 fd_7_10 (sk_l hs 0 (by decide)) (sk_k0 hs) rfl (sk_r0_0 hs) ?_
    refine rn_iload_n dX7_colour_4 rfl rfl ?_
    refine rn_callVq (st := []) dX7_colour_5 cf_7_110 (c_X0_isSquare (sk_d1 hs) hX.1.1 hX.1.2.1 w8 h8 _) (by decide) (sk_l hs 1 (by decide)) (sk_k1 hs) rfl rfl (Nat.le_of_ble_eq_true rfl) ?_
    refine rn_if_neB (tgt := 13) dX7_colour_8 (by decide) (fun c_8 => ?_) (fun c_8 => ?_)
    · exact absurd (of_decide_eq_true c_8) hin
    · refine rn_iconst (v := (-1)) dX7_colour_11 (by decide) ?_
      refine rn_ireturn dX7_colour_12 rfl (vp_nar_int _) ?_
      exact ⟨rfl, rfl, KW.rf hX⟩
set_option maxHeartbeats 1000000 in
set_option maxRecDepth 100000 in
theorem c_X8_colour {S : am_S} (hs : sk S) {I : am_I} {w h : Nat} {M : Nat → Nat → Nat} (w1 : 1 ≤ w) (w8 : w ≤ 8) (h1 : 1 ≤ h) (h8 : h ≤ 8) (hok : okM w h M) (hG : isGr I 0 w h M) (x : Int32) : am_Mt 5 Y_X8_colour (0, 0) [.ref 44, .int x] S I (fun r S' I' => r = some (.int (vColour w h M x)) ∧ S' = S ∧ KM I I') := by
  have h256 := sq_bound w8 h8
  have hcn := lcnt_le (h := h) (M := M) w1
  by_cases hin : 0 ≤ x.toInt ∧ x.toInt < ((4 * w * h : Nat) : Int)
  · obtain ⟨y, hy, rfl⟩ : ∃ y, y < 4 * w * h ∧ x = nI y := ⟨x.toInt.toNat, by omega, z_nat hin.1⟩
    have ey : (nI y).toInt.toNat = y := by rw [z_nI (by omega)]; omega
    unfold vColour
    rw [if_pos hin, ey]
    refine am_mt ⟨by decide +kernel, rfl⟩ (Nat.le_of_ble_eq_true rfl) rfl ?_
    refine rn_aload_n dX8_colour_0 rfl rfl ?_
    refine rn_iload_n dX8_colour_1 rfl rfl ?_
    refine rn_callVq (st := []) dX8_colour_2 cf_8_95 (c_X8_isSquare hs hG.1 hG.2.1 w1 w8 h1 h8 _) (by decide) (sk_l hs 44 (by decide)) (sk_k44 hs) rfl rfl (Nat.le_of_ble_eq_true rfl) ?_
    refine rn_if_neB (tgt := 10) dX8_colour_5 (by decide) (fun c_5 => ?_) (fun c_5 => ?_)
    · refine rn_aload_n dX8_colour_10 rfl rfl ?_
      refine rn_callV0 (st := []) dX8_colour_11 cf_8_92 (c_X8_walkAll hs w1 w8 h1 h8 hok hG) (by decide) (sk_l hs 44 (by decide)) (sk_k44 hs) rfl rfl (Nat.le_of_ble_eq_true rfl) (fun r1 S1 I1 hq => ?_)
      obtain ⟨rfl, rfl, hF, hE⟩ := hq
      have hLX := LX_of w1 hF.1 hE
      have hKM := FB_km hF
      have hn1 : I1 44 4 = nI (lcnt w h M) := hF.2.1
      refine rn_aload_n dX8_colour_14 rfl rfl ?_
      refine rn_getR (r := 50) dX8_colour_15 fd_8_27 (sk_l hs 44 (by decide)) (sk_k44 hs) rfl (sk_r44_6 hs) ?_
      refine rn_iload_n dX8_colour_18 rfl rfl ?_
      refine rn_ialoadN dX8_colour_19 (sk_l hs 50 (by decide)) (sk_k50 hs) (by omega) (by omega) ?_
      refine rn_top (y := nI (lplc w h M y)) ((hLX.1 y hy).2) ?_
      have hpl := lplc_lt (M := M) w1 hy
      refine rn_iconst (v := nI 2) dX8_colour_20 (by decide) ?_
      refine rn_irem dX8_colour_21 (by decide) ?_
      refine rn_top (pk_rem (by omega) (by omega) (by omega)) ?_
      refine rn_ireturn dX8_colour_22 rfl (vp_nar_int _) ?_
      exact ⟨rfl, rfl, hKM⟩
    · exact absurd c_5 (by rw [decide_eq_true hin]; decide)
  · unfold vColour
    rw [if_neg hin]
    refine am_mt ⟨by decide +kernel, rfl⟩ (Nat.le_of_ble_eq_true rfl) rfl ?_
    refine rn_aload_n dX8_colour_0 rfl rfl ?_
    refine rn_iload_n dX8_colour_1 rfl rfl ?_
    refine rn_callVq (st := []) dX8_colour_2 cf_8_95 (c_X8_isSquare hs hG.1 hG.2.1 w1 w8 h1 h8 _) (by decide) (sk_l hs 44 (by decide)) (sk_k44 hs) rfl rfl (Nat.le_of_ble_eq_true rfl) ?_
    refine rn_if_neB (tgt := 10) dX8_colour_5 (by decide) (fun c_5 => ?_) (fun c_5 => ?_)
    · exact absurd (of_decide_eq_true c_5) hin
    · refine rn_iconst (v := (-1)) dX8_colour_8 (by decide) ?_
      refine rn_ireturn dX8_colour_9 rfl (vp_nar_int _) ?_
      exact ⟨rfl, rfl, KM.rf⟩
