noncomputable def llen (w h : Nat) (M : Nat → Nat → Nat) (l : Nat) : Nat := lbeg w h M (l + 1) - lbeg w h M l
def isLn (w h : Nat) (M : Nat → Nat → Nat) (l : Int32) : Prop := 0 ≤ l.toInt ∧ l.toInt < (lcnt w h M : Int)
noncomputable def vWalk (w h : Nat) (M : Nat → Nat → Nat) (l k : Int32) : Int32 := if pb (isLn w h M l ∧ 0 ≤ k.toInt ∧ k.toInt < (llen w h M l.toInt.toNat : Int)) = true then nI (lwk w h M (lbeg w h M l.toInt.toNat + k.toInt.toNat)) else -1
theorem isLn_ex {w h : Nat} {M : Nat → Nat → Nat} {l : Int32} (hl : isLn w h M l) : ∃ n, n < lcnt w h M ∧ l = nI n := ⟨l.toInt.toNat, by have := hl.1; have := hl.2; omega, z_nat hl.1⟩
set_option maxHeartbeats 1000000 in
set_option maxRecDepth 100000 in
theorem c_X2_squareOf {S : am_S} (hs : sk S) {I : am_I} {w h : Nat} {M : Nat → Nat → Nat} (w1 : 1 ≤ w) (w8 : w ≤ 8) (h8 : h ≤ 8) (hL : LX w h M I 8 9 10 11) (hn : I 7 0 = nI (lcnt w h M)) {n k : Nat} (hl : n < lcnt w h M) (hk : k < llen w h M n) : am_Mt 2 Y_X2_squareOf (0, 0) [.ref 7, .int (nI n), .int (nI k)] S I (am_q (some (.int (nI (lwk w h M (lbeg w h M n + k))))) S I) := by
  have h256 := sq_bound w8 h8
  have hcn := lcnt_le (h := h) (M := M) w1
  have hbo := lbeg_ok (M := M) w1 hl
  unfold llen at hk
  refine am_mt ⟨by decide +kernel, rfl⟩ (Nat.le_of_ble_eq_true rfl) rfl ?_
  refine rn_iload_n dX2_squareOf_0 rfl rfl ?_
  refine rn_if_ltN (tgt := 29) dX2_squareOf_1 (by omega) (by decide) ?_
  refine rn_iload_n dX2_squareOf_4 rfl rfl ?_
  refine rn_aload_n dX2_squareOf_5 rfl rfl ?_
  refine rn_iload_n dX2_squareOf_6 rfl rfl ?_
  refine rn_callVq (st := [.int (nI k)]) dX2_squareOf_7 cf_2_61 (c_X2_lengthOf hs (l := n) hn (by omega) hl (hL.2.2 n (by omega)) (hL.2.2 (n + 1) (by omega)) (by omega)) (by decide) (sk_l hs 7 (by decide)) (sk_k7 hs) rfl rfl (Nat.le_of_ble_eq_true rfl) ?_
  refine rn_icmp_geN (tgt := 29) dX2_squareOf_10 (by decide) (by omega) (by omega) (fun c_10 => ?_) (fun c_10 => ?_)
  · omega
  · refine rn_aload_n dX2_squareOf_13 rfl rfl ?_
    refine rn_getR (r := 10) dX2_squareOf_14 fd_2_18 (sk_l hs 7 (by decide)) (sk_k7 hs) rfl (sk_r7_3 hs) ?_
    refine rn_aload_n dX2_squareOf_17 rfl rfl ?_
    refine rn_getR (r := 11) dX2_squareOf_18 fd_2_21 (sk_l hs 7 (by decide)) (sk_k7 hs) rfl (sk_r7_4 hs) ?_
    refine rn_iload_n dX2_squareOf_21 rfl rfl ?_
    refine rn_ialoadN dX2_squareOf_22 (sk_l hs 11 (by decide)) (sk_k11 hs) (by omega) (by omega) ?_
    refine rn_top (y := nI (lbeg w h M n)) (hL.2.2 n (by omega)) ?_
    refine rn_iload_n dX2_squareOf_23 rfl rfl ?_
    refine rn_iadd dX2_squareOf_24 ?_
    refine rn_top (nI_add _ _) ?_
    refine rn_ialoadN dX2_squareOf_25 (sk_l hs 10 (by decide)) (sk_k10 hs) (by omega) (by omega) ?_
    refine rn_top (y := nI (lwk w h M (lbeg w h M n + k))) (hL.2.1 _ (by omega)) ?_
    refine rn_goto (tgt := 30) dX2_squareOf_26 (by decide) ?_
    refine rn_ireturn dX2_squareOf_30 rfl (vp_nar_int _) ?_
    exact ⟨rfl, rfl, rfl⟩
set_option maxHeartbeats 1000000 in
set_option maxRecDepth 100000 in
theorem c_X2_squareOf_k {S : am_S} (hs : sk S) {I : am_I} {w h : Nat} {M : Nat → Nat → Nat} (w1 : 1 ≤ w) (w8 : w ≤ 8) (h8 : h ≤ 8) (hL : LX w h M I 8 9 10 11) (hn : I 7 0 = nI (lcnt w h M)) {n : Nat} {k : Int32} (hl : n < lcnt w h M) (hk : ¬ (0 ≤ k.toInt ∧ k.toInt < (llen w h M n : Int))) : am_Mt 2 Y_X2_squareOf (0, 0) [.ref 7, .int (nI n), .int k] S I (am_q (some (.int (-1))) S I) := by
  have h256 := sq_bound w8 h8
  have hcn := lcnt_le (h := h) (M := M) w1
  have hbo := lbeg_ok (M := M) w1 hl
  refine am_mt ⟨by decide +kernel, rfl⟩ (Nat.le_of_ble_eq_true rfl) rfl ?_
  refine rn_iload_n dX2_squareOf_0 rfl rfl ?_
  refine rn_if_lt (tgt := 29) dX2_squareOf_1 (by decide) (fun c_1 => ?_) (fun c_1 => ?_)
  · refine rn_iconst (v := (-1)) dX2_squareOf_29 (by decide) ?_
    refine rn_ireturn dX2_squareOf_30 rfl (vp_nar_int _) ?_
    exact ⟨rfl, rfl, rfl⟩
  · refine rn_iload_n dX2_squareOf_4 rfl rfl ?_
    refine rn_aload_n dX2_squareOf_5 rfl rfl ?_
    refine rn_iload_n dX2_squareOf_6 rfl rfl ?_
    refine rn_callVq (st := [.int k]) dX2_squareOf_7 cf_2_61 (c_X2_lengthOf hs (l := n) hn (by omega) hl (hL.2.2 n (by omega)) (hL.2.2 (n + 1) (by omega)) (by omega)) (by decide) (sk_l hs 7 (by decide)) (sk_k7 hs) rfl rfl (Nat.le_of_ble_eq_true rfl) ?_
    refine rn_icmp_ge (tgt := 29) dX2_squareOf_10 (by decide) (fun c_10 => ?_) (fun c_10 => ?_)
    · refine rn_iconst (v := (-1)) dX2_squareOf_29 (by decide) ?_
      refine rn_ireturn dX2_squareOf_30 rfl (vp_nar_int _) ?_
      exact ⟨rfl, rfl, rfl⟩
    · exact absurd ⟨by rw [z_lt, z_0] at c_1; omega, by rw [z_le, z_nI (by omega)] at c_10; unfold llen; omega⟩ hk
set_option maxHeartbeats 1000000 in
set_option maxRecDepth 100000 in
theorem c_X2_squareOf_l {S : am_S} (hs : sk S) {I : am_I} {w h : Nat} {M : Nat → Nat → Nat} (w1 : 1 ≤ w) (w8 : w ≤ 8) (h8 : h ≤ 8) (hL : LX w h M I 8 9 10 11) (hn : I 7 0 = nI (lcnt w h M)) {l k : Int32} (hl : ¬ isLn w h M l) : am_Mt 2 Y_X2_squareOf (0, 0) [.ref 7, .int l, .int k] S I (am_q (some (.int (-1))) S I) := by
  have h256 := sq_bound w8 h8
  have hcn := lcnt_le (h := h) (M := M) w1
  refine am_mt ⟨by decide +kernel, rfl⟩ (Nat.le_of_ble_eq_true rfl) rfl ?_
  refine rn_iload_n dX2_squareOf_0 rfl rfl ?_
  refine rn_if_lt (tgt := 29) dX2_squareOf_1 (by decide) (fun c_1 => ?_) (fun c_1 => ?_)
  · refine rn_iconst (v := (-1)) dX2_squareOf_29 (by decide) ?_
    refine rn_ireturn dX2_squareOf_30 rfl (vp_nar_int _) ?_
    exact ⟨rfl, rfl, rfl⟩
  · refine rn_iload_n dX2_squareOf_4 rfl rfl ?_
    refine rn_aload_n dX2_squareOf_5 rfl rfl ?_
    refine rn_iload_n dX2_squareOf_6 rfl rfl ?_
    refine rn_callVq (st := [.int k]) dX2_squareOf_7 cf_2_61 (c_X2_lengthOf_no hs hn (by omega) hl) (by decide) (sk_l hs 7 (by decide)) (sk_k7 hs) rfl rfl (Nat.le_of_ble_eq_true rfl) ?_
    refine rn_icmp_ge (tgt := 29) dX2_squareOf_10 (by decide) (fun c_10 => ?_) (fun c_10 => ?_)
    · refine rn_iconst (v := (-1)) dX2_squareOf_29 (by decide) ?_
      refine rn_ireturn dX2_squareOf_30 rfl (vp_nar_int _) ?_
      exact ⟨rfl, rfl, rfl⟩
    · exact absurd c_10 (by rw [z_le, z_nI (by decide)]; rw [z_lt, z_0] at c_1; omega)
theorem c_X2_squareOf_v {S : am_S} (hs : sk S) {I : am_I} {w h : Nat} {M : Nat → Nat → Nat} (w1 : 1 ≤ w) (w8 : w ≤ 8) (h8 : h ≤ 8) (hL : LX w h M I 8 9 10 11) (hn : I 7 0 = nI (lcnt w h M)) (l k : Int32) : am_Mt 2 Y_X2_squareOf (0, 0) [.ref 7, .int l, .int k] S I (am_q (some (.int (vWalk w h M l k))) S I) := by
  have h256 := sq_bound w8 h8
  have hcn := lcnt_le (h := h) (M := M) w1
  unfold vWalk
  by_cases hl : isLn w h M l
  · obtain ⟨n, hln, rfl⟩ := isLn_ex hl
    have en : (nI n).toInt.toNat = n := by rw [z_nI (by omega)]; omega
    rw [en]
    by_cases hk : 0 ≤ k.toInt ∧ k.toInt < (llen w h M n : Int)
    · have hb := lbeg_ok (M := M) w1 hln
      obtain ⟨m, hm, rfl⟩ : ∃ m, m < llen w h M n ∧ k = nI m := ⟨k.toInt.toNat, by omega, z_nat hk.1⟩
      have hm2 : m < 2147483648 := by unfold llen at hm; omega
      rw [pb_t ⟨hl, hk⟩, if_pos rfl, show (nI m).toInt.toNat = m by rw [z_nI hm2]; omega]
      exact c_X2_squareOf hs w1 w8 h8 hL hn hln hm
    · rw [pb_f (fun q => hk q.2), if_neg (by decide)]
      exact c_X2_squareOf_k hs w1 w8 h8 hL hn hln hk
  · rw [pb_f (fun q => hl q.1), if_neg (by decide)]
    exact c_X2_squareOf_l hs w1 w8 h8 hL hn hl
set_option maxHeartbeats 1000000 in
set_option maxRecDepth 100000 in
theorem c_X7_walk {S : am_S} (hs : sk S) {I : am_I} {w h : Nat} {M : Nat → Nat → Nat} (w1 : 1 ≤ w) (w8 : w ≤ 8) (h1 : 1 ≤ h) (h8 : h ≤ 8) (hok : okM w h M) (hX : XL w h M I) (l k : Int32) : am_Mt 5 Y_X7_walk (0, 0) [.ref 0, .int l, .int k] S I (fun r S' I' => r = some (.int (vWalk w h M l k)) ∧ S' = S ∧ KW w h M I I') := by
  refine am_mt ⟨by decide +kernel, rfl⟩ (Nat.le_of_ble_eq_true rfl) rfl ?_
  refine rn_aload_n dX7_walk_0 rfl rfl ?_
  refine rn_callV0 (st := []) dX7_walk_1 cf_7_103 (c_X7_knowLines hs w1 w8 h1 h8 hok hX) (by decide) (sk_l hs 0 (by decide)) (sk_k0 hs) rfl rfl (Nat.le_of_ble_eq_true rfl) (fun r1 S1 I1 hq => ?_)
  obtain ⟨rfl, rfl, hK⟩ := hq
  have hD1 := hK.dr hX
  refine rn_aload_n dX7_walk_4 rfl rfl ?_
  refine rn_getR (r := 7) dX7_walk_5 fd_7_43 (sk_l hs 0 (by decide)) (sk_k0 hs) rfl (sk_r0_4 hs) ?_
  refine rn_iload_n dX7_walk_8 rfl rfl ?_
  refine rn_iload_n dX7_walk_9 rfl rfl ?_
  refine rn_callVq (st := []) dX7_walk_10 cf_7_124 (c_X2_squareOf_v hs w1 w8 h8 hK.2.2.2.1 hK.2.2.2.2 l k) (by decide) (sk_l hs 7 (by decide)) (sk_k7 hs) rfl rfl (Nat.le_of_ble_eq_true rfl) ?_
  refine rn_ireturn dX7_walk_13 rfl (vp_nar_int _) ?_
  exact ⟨rfl, rfl, hK.kw hX⟩
theorem lcnt_pos {w h : Nat} {M : Nat → Nat → Nat} (w1 : 1 ≤ w) (h1 : 1 ≤ h) : 1 ≤ lcnt w h M := by
  have : 0 < 4 * w * h := Nat.mul_pos (by omega) h1
  have := lnum_lt (M := M) w1 this
  omega
theorem isLn_dec {w h : Nat} {M : Nat → Nat → Nat} (w1 : 1 ≤ w) (w8 : w ≤ 8) (h1 : 1 ≤ h) (h8 : h ≤ 8) (l : Int32) : decide ((nI 0).toInt ≤ l.toInt ∧ l.toInt ≤ (nI (lcnt w h M - 1)).toInt) = true ↔ isLn w h M l := by
  have h256 := sq_bound w8 h8
  have hcn := lcnt_le (h := h) (M := M) w1
  have hp := lcnt_pos (M := M) w1 h1
  rw [decide_eq_true_iff, z_nI (by decide), z_nI (by omega)]
  unfold isLn
  omega
set_option maxHeartbeats 1000000 in
set_option maxRecDepth 100000 in
theorem c_X8_walk {S : am_S} (hs : sk S) {I : am_I} {w h : Nat} {M : Nat → Nat → Nat} (w1 : 1 ≤ w) (w8 : w ≤ 8) (h1 : 1 ≤ h) (h8 : h ≤ 8) (hok : okM w h M) (hG : isGr I 0 w h M) (l k : Int32) : am_Mt 5 Y_X8_walk (0, 0) [.ref 44, .int l, .int k] S I (fun r S' I' => r = some (.int (vWalk w h M l k)) ∧ S' = S ∧ KM I I') := by
  have h256 := sq_bound w8 h8
  have hcn := lcnt_le (h := h) (M := M) w1
  have hpp := lcnt_pos (M := M) w1 h1
  by_cases hl : isLn w h M l
  · obtain ⟨n, hln, rfl⟩ := isLn_ex hl
    have hbo := lbeg_ok (M := M) w1 hln
    have en : (nI n).toInt.toNat = n := by rw [z_nI (by omega)]; omega
    have e0 := z_nI (n := 0) (by decide)
    have eT := z_nI (n := lbeg w h M (n + 1) - lbeg w h M n - 1) (by omega)
    by_cases hk : 0 ≤ k.toInt ∧ k.toInt < (llen w h M n : Int)
    · obtain ⟨m, hm, rfl⟩ : ∃ m, m < llen w h M n ∧ k = nI m := ⟨k.toInt.toNat, by omega, z_nat hk.1⟩
      unfold llen at hm
      have em := z_nI (n := m) (by omega)
      unfold vWalk
      rw [en, pb_t ⟨hl, hk⟩, if_pos rfl, show (nI m).toInt.toNat = m by rw [em]; omega]
      refine am_mt ⟨by decide +kernel, rfl⟩ (Nat.le_of_ble_eq_true rfl) rfl ?_
      refine rn_aload_n dX8_walk_0 rfl rfl ?_
      refine rn_callV0 (st := []) dX8_walk_1 cf_8_92 (c_X8_walkAll hs w1 w8 h1 h8 hok hG) (by decide) (sk_l hs 44 (by decide)) (sk_k44 hs) rfl rfl (Nat.le_of_ble_eq_true rfl) (fun r1 S1 I1 hq => ?_)
      obtain ⟨rfl, rfl, hF, hE⟩ := hq
      have hLX := LX_of w1 hF.1 hE
      have hKM := FB_km hF
      have hn1 : I1 44 4 = nI (lcnt w h M) := hF.2.1
      refine rn_iload_n dX8_walk_4 rfl rfl ?_
      refine rn_iconst (v := nI 0) dX8_walk_5 (by decide) ?_
      refine rn_aload_n dX8_walk_6 rfl rfl ?_
      refine rn_getI dX8_walk_7 fd_8_85 (sk_l hs 44 (by decide)) (sk_k44 hs) rfl ?_
      refine rn_top (y := nI (lcnt w h M)) (hn1) ?_
      refine rn_iconst (v := nI 1) dX8_walk_10 (by decide) ?_
      refine rn_isub dX8_walk_11 ?_
      refine rn_top (pk_sub (by omega)) ?_
      refine rn_callSq (st := []) dX8_walk_12 cf_8_70 (c_X8_isIn _ I1 _ _ _) (by decide) rfl rfl (Nat.le_of_ble_eq_true rfl) ?_
      refine rn_if_eqB (tgt := 59) dX8_walk_15 (by decide) (fun c_15 => ?_) (fun c_15 => ?_)
      · exact absurd ((isLn_dec w1 w8 h1 h8 _).mpr hl) (by rw [c_15]; decide)
      · refine rn_iload_n dX8_walk_18 rfl rfl ?_
        refine rn_iconst (v := nI 0) dX8_walk_19 (by decide) ?_
        refine rn_aload_n dX8_walk_20 rfl rfl ?_
        refine rn_getR (r := 52) dX8_walk_21 fd_8_33 (sk_l hs 44 (by decide)) (sk_k44 hs) rfl (sk_r44_8 hs) ?_
        refine rn_iload_n dX8_walk_24 rfl rfl ?_
        refine rn_iconst (v := nI 1) dX8_walk_25 (by decide) ?_
        refine rn_iadd dX8_walk_26 ?_
        refine rn_top (nI_add _ _) ?_
        refine rn_ialoadN dX8_walk_27 (sk_l hs 52 (by decide)) (sk_k52 hs) (by omega) (by omega) ?_
        refine rn_top (y := nI (lbeg w h M (n + 1))) (hLX.2.2 _ (by omega)) ?_
        refine rn_aload_n dX8_walk_28 rfl rfl ?_
        refine rn_getR (r := 52) dX8_walk_29 fd_8_33 (sk_l hs 44 (by decide)) (sk_k44 hs) rfl (sk_r44_8 hs) ?_
        refine rn_iload_n dX8_walk_32 rfl rfl ?_
        refine rn_ialoadN dX8_walk_33 (sk_l hs 52 (by decide)) (sk_k52 hs) (by omega) (by omega) ?_
        refine rn_top (y := nI (lbeg w h M n)) (hLX.2.2 _ (by omega)) ?_
        refine rn_isub dX8_walk_34 ?_
        refine rn_top (pk_sub (by omega)) ?_
        refine rn_iconst (v := nI 1) dX8_walk_35 (by decide) ?_
        refine rn_isub dX8_walk_36 ?_
        refine rn_top (pk_sub (by omega)) ?_
        refine rn_callSq (st := []) dX8_walk_37 cf_8_70 (c_X8_isIn _ I1 _ _ _) (by decide) rfl rfl (Nat.le_of_ble_eq_true rfl) ?_
        refine rn_if_eqB (tgt := 59) dX8_walk_40 (by decide) (fun c_40 => ?_) (fun c_40 => ?_)
        · exact absurd c_40 (by rw [e0, eT, em]; simp; omega)
        · refine rn_aload_n dX8_walk_43 rfl rfl ?_
          refine rn_getR (r := 51) dX8_walk_44 fd_8_30 (sk_l hs 44 (by decide)) (sk_k44 hs) rfl (sk_r44_7 hs) ?_
          refine rn_aload_n dX8_walk_47 rfl rfl ?_
          refine rn_getR (r := 52) dX8_walk_48 fd_8_33 (sk_l hs 44 (by decide)) (sk_k44 hs) rfl (sk_r44_8 hs) ?_
          refine rn_iload_n dX8_walk_51 rfl rfl ?_
          refine rn_ialoadN dX8_walk_52 (sk_l hs 52 (by decide)) (sk_k52 hs) (by omega) (by omega) ?_
          refine rn_top (y := nI (lbeg w h M n)) (hLX.2.2 _ (by omega)) ?_
          refine rn_iload_n dX8_walk_53 rfl rfl ?_
          refine rn_iadd dX8_walk_54 ?_
          refine rn_top (nI_add _ _) ?_
          refine rn_ialoadN dX8_walk_55 (sk_l hs 51 (by decide)) (sk_k51 hs) (by omega) (by omega) ?_
          refine rn_top (y := nI (lwk w h M (lbeg w h M n + m))) (hLX.2.1 _ (by omega)) ?_
          refine rn_goto (tgt := 60) dX8_walk_56 (by decide) ?_
          refine rn_ireturn dX8_walk_60 rfl (vp_nar_int _) ?_
          exact ⟨rfl, rfl, hKM⟩
    · unfold vWalk
      rw [en, pb_f (fun q => hk q.2), if_neg (by decide)]
      refine am_mt ⟨by decide +kernel, rfl⟩ (Nat.le_of_ble_eq_true rfl) rfl ?_
      refine rn_aload_n dX8_walk_0 rfl rfl ?_
      refine rn_callV0 (st := []) dX8_walk_1 cf_8_92 (c_X8_walkAll hs w1 w8 h1 h8 hok hG) (by decide) (sk_l hs 44 (by decide)) (sk_k44 hs) rfl rfl (Nat.le_of_ble_eq_true rfl) (fun r1 S1 I1 hq => ?_)
      obtain ⟨rfl, rfl, hF, hE⟩ := hq
      have hLX := LX_of w1 hF.1 hE
      have hKM := FB_km hF
      have hn1 : I1 44 4 = nI (lcnt w h M) := hF.2.1
      refine rn_iload_n dX8_walk_4 rfl rfl ?_
      refine rn_iconst (v := nI 0) dX8_walk_5 (by decide) ?_
      refine rn_aload_n dX8_walk_6 rfl rfl ?_
      refine rn_getI dX8_walk_7 fd_8_85 (sk_l hs 44 (by decide)) (sk_k44 hs) rfl ?_
      refine rn_top (y := nI (lcnt w h M)) (hn1) ?_
      refine rn_iconst (v := nI 1) dX8_walk_10 (by decide) ?_
      refine rn_isub dX8_walk_11 ?_
      refine rn_top (pk_sub (by omega)) ?_
      refine rn_callSq (st := []) dX8_walk_12 cf_8_70 (c_X8_isIn _ I1 _ _ _) (by decide) rfl rfl (Nat.le_of_ble_eq_true rfl) ?_
      refine rn_if_eqB (tgt := 59) dX8_walk_15 (by decide) (fun c_15 => ?_) (fun c_15 => ?_)
      · exact absurd ((isLn_dec w1 w8 h1 h8 _).mpr hl) (by rw [c_15]; decide)
      · refine rn_iload_n dX8_walk_18 rfl rfl ?_
        refine rn_iconst (v := nI 0) dX8_walk_19 (by decide) ?_
        refine rn_aload_n dX8_walk_20 rfl rfl ?_
        refine rn_getR (r := 52) dX8_walk_21 fd_8_33 (sk_l hs 44 (by decide)) (sk_k44 hs) rfl (sk_r44_8 hs) ?_
        refine rn_iload_n dX8_walk_24 rfl rfl ?_
        refine rn_iconst (v := nI 1) dX8_walk_25 (by decide) ?_
        refine rn_iadd dX8_walk_26 ?_
        refine rn_top (nI_add _ _) ?_
        refine rn_ialoadN dX8_walk_27 (sk_l hs 52 (by decide)) (sk_k52 hs) (by omega) (by omega) ?_
        refine rn_top (y := nI (lbeg w h M (n + 1))) (hLX.2.2 _ (by omega)) ?_
        refine rn_aload_n dX8_walk_28 rfl rfl ?_
        refine rn_getR (r := 52) dX8_walk_29 fd_8_33 (sk_l hs 44 (by decide)) (sk_k44 hs) rfl (sk_r44_8 hs) ?_
        refine rn_iload_n dX8_walk_32 rfl rfl ?_
        refine rn_ialoadN dX8_walk_33 (sk_l hs 52 (by decide)) (sk_k52 hs) (by omega) (by omega) ?_
        refine rn_top (y := nI (lbeg w h M n)) (hLX.2.2 _ (by omega)) ?_
        refine rn_isub dX8_walk_34 ?_
        refine rn_top (pk_sub (by omega)) ?_
        refine rn_iconst (v := nI 1) dX8_walk_35 (by decide) ?_
        refine rn_isub dX8_walk_36 ?_
        refine rn_top (pk_sub (by omega)) ?_
        refine rn_callSq (st := []) dX8_walk_37 cf_8_70 (c_X8_isIn _ I1 _ _ _) (by decide) rfl rfl (Nat.le_of_ble_eq_true rfl) ?_
        refine rn_if_eqB (tgt := 59) dX8_walk_40 (by decide) (fun c_40 => ?_) (fun c_40 => ?_)
        · refine rn_iconst (v := (-1)) dX8_walk_59 (by decide) ?_
          refine rn_ireturn dX8_walk_60 rfl (vp_nar_int _) ?_
          exact ⟨rfl, rfl, hKM⟩
        · exact absurd (of_decide_eq_true c_40) (by rw [e0, eT]; unfold llen at hk; omega)
  · unfold vWalk
    rw [pb_f (fun q => hl q.1), if_neg (by decide)]
    refine am_mt ⟨by decide +kernel, rfl⟩ (Nat.le_of_ble_eq_true rfl) rfl ?_
    refine rn_aload_n dX8_walk_0 rfl rfl ?_
    refine rn_callV0 (st := []) dX8_walk_1 cf_8_92 (c_X8_walkAll hs w1 w8 h1 h8 hok hG) (by decide) (sk_l hs 44 (by decide)) (sk_k44 hs) rfl rfl (Nat.le_of_ble_eq_true rfl) (fun r1 S1 I1 hq => ?_)
    obtain ⟨rfl, rfl, hF, hE⟩ := hq
    have hLX := LX_of w1 hF.1 hE
    have hKM := FB_km hF
    have hn1 : I1 44 4 = nI (lcnt w h M) := hF.2.1
    refine rn_iload_n dX8_walk_4 rfl rfl ?_
    refine rn_iconst (v := nI 0) dX8_walk_5 (by decide) ?_
    refine rn_aload_n dX8_walk_6 rfl rfl ?_
    refine rn_getI dX8_walk_7 fd_8_85 (sk_l hs 44 (by decide)) (sk_k44 hs) rfl ?_
    refine rn_top (y := nI (lcnt w h M)) (hn1) ?_
    refine rn_iconst (v := nI 1) dX8_walk_10 (by decide) ?_
    refine rn_isub dX8_walk_11 ?_
    refine rn_top (pk_sub (by omega)) ?_
    refine rn_callSq (st := []) dX8_walk_12 cf_8_70 (c_X8_isIn _ I1 _ _ _) (by decide) rfl rfl (Nat.le_of_ble_eq_true rfl) ?_
    refine rn_if_eqB (tgt := 59) dX8_walk_15 (by decide) (fun c_15 => ?_) (fun c_15 => ?_)
    · refine rn_iconst (v := (-1)) dX8_walk_59 (by decide) ?_
      refine rn_ireturn dX8_walk_60 rfl (vp_nar_int _) ?_
      exact ⟨rfl, rfl, hKM⟩
    · exact absurd ((isLn_dec w1 w8 h1 h8 _).mp c_15) hl
noncomputable def eqL (w h : Nat) (M : Nat → Nat → Nat) (l : Int32) (x : Nat) : Nat := if nI (lnum w h M x) = l then 1 else 0
noncomputable def c4 (w h : Nat) (M : Nat → Nat → Nat) (l : Int32) (x : Nat) : Nat := eqL w h M l x + eqL w h M l (x + 1) + eqL w h M l (x + 2 * w) + eqL w h M l (x + 2 * w + 1)
theorem eqL_le (w h : Nat) (M : Nat → Nat → Nat) (l : Int32) (x : Nat) : eqL w h M l x ≤ 1 := by unfold eqL; split <;> omega
theorem c4_le (w h : Nat) (M : Nat → Nat → Nat) (l : Int32) (x : Nat) : c4 w h M l x ≤ 4 := by
  have a := eqL_le w h M l x
  have b := eqL_le w h M l (x + 1)
  have c := eqL_le w h M l (x + 2 * w)
  have d := eqL_le w h M l (x + 2 * w + 1)
  unfold c4
  omega
set_option maxHeartbeats 1000000 in
set_option maxRecDepth 100000 in
theorem c_X7_squaresRound {S : am_S} (hs : sk S) {I : am_I} {w h i j x : Nat} {M : Nat → Nat → Nat} (w8 : w ≤ 8) (h8 : h ≤ 8) (hX : isDr I 1 2 w h M) (hL : LX w h M I 8 9 10 11) (l : Int32) (hx : 2 * w * j + i = x + 2 * w + 1) (hb : x + 2 * w + 1 < 4 * w * h) : am_Mt 1 Y_X7_squaresRound (0, 0) [.ref 0, .int l, .int (nI i), .int (nI j)] S I (am_q (some (.int (nI (c4 w h M l x)))) S I) := by
  have h256 := sq_bound w8 h8
  have J121 : am_Rn 1 Y_X7_squaresRound (0, 0) 121 [some (.ref 0), some (.int l), some (.int (nI i)), some (.int (nI j)), some (.int (nI (2 * w))), some (.int (nI (x + 2 * w + 1))), some (.int (nI (0 + eqL w h M l (x + 2 * w + 1) + eqL w h M l (x + 2 * w) + eqL w h M l (x + 1))))] [.int (nI (eqL w h M l (x))), .int (nI (0 + eqL w h M l (x + 2 * w + 1) + eqL w h M l (x + 2 * w) + eqL w h M l (x + 1)))] S I (am_q (some (.int (nI (c4 w h M l x)))) S I) := by
    refine rn_iadd dX7_squaresRound_121 ?_
    refine rn_top (nI_add _ _) ?_
    refine rn_istore (ls' := [some (.ref 0), some (.int l), some (.int (nI i)), some (.int (nI j)), some (.int (nI (2 * w))), some (.int (nI (x + 2 * w + 1))), some (.int (nI ((0 + eqL w h M l (x + 2 * w + 1) + eqL w h M l (x + 2 * w) + eqL w h M l (x + 1)) + (eqL w h M l (x)))))]) dX7_squaresRound_122 (by decide) rfl rfl ?_
    refine rn_iload dX7_squaresRound_124 rfl ?_
    refine rn_ireturn dX7_squaresRound_126 rfl (vp_nar_int _) ?_
    exact ⟨by rw [show (0 + eqL w h M l (x + 2 * w + 1) + eqL w h M l (x + 2 * w) + eqL w h M l (x + 1)) + (eqL w h M l (x)) = c4 w h M l x from by unfold c4; omega], rfl, rfl⟩
  have J93 : am_Rn 1 Y_X7_squaresRound (0, 0) 93 [some (.ref 0), some (.int l), some (.int (nI i)), some (.int (nI j)), some (.int (nI (2 * w))), some (.int (nI (x + 2 * w + 1))), some (.int (nI (0 + eqL w h M l (x + 2 * w + 1) + eqL w h M l (x + 2 * w))))] [.int (nI (eqL w h M l (x + 1))), .int (nI (0 + eqL w h M l (x + 2 * w + 1) + eqL w h M l (x + 2 * w)))] S I (am_q (some (.int (nI (c4 w h M l x)))) S I) := by
    refine rn_iadd dX7_squaresRound_93 ?_
    refine rn_top (nI_add _ _) ?_
    refine rn_istore (ls' := [some (.ref 0), some (.int l), some (.int (nI i)), some (.int (nI j)), some (.int (nI (2 * w))), some (.int (nI (x + 2 * w + 1))), some (.int (nI ((0 + eqL w h M l (x + 2 * w + 1) + eqL w h M l (x + 2 * w)) + (eqL w h M l (x + 1)))))]) dX7_squaresRound_94 (by decide) rfl rfl ?_
    refine rn_iload dX7_squaresRound_96 rfl ?_
    refine rn_aload_n dX7_squaresRound_98 rfl rfl ?_
    refine rn_getR (r := 7) dX7_squaresRound_99 fd_7_43 (sk_l hs 0 (by decide)) (sk_k0 hs) rfl (sk_r0_4 hs) ?_
    refine rn_iload dX7_squaresRound_102 rfl ?_
    refine rn_iload dX7_squaresRound_104 rfl ?_
    refine rn_isub dX7_squaresRound_106 ?_
    refine rn_top (pk_sub (by omega)) ?_
    refine rn_iconst (v := nI 1) dX7_squaresRound_107 (by decide) ?_
    refine rn_isub dX7_squaresRound_108 ?_
    refine rn_top (pk_sub (by omega)) ?_
    refine rn_top (y := nI x) (by first | (congr 1; omega) | congr 1) ?_
    refine rn_callVq (st := [.int (nI ((0 + eqL w h M l (x + 2 * w + 1) + eqL w h M l (x + 2 * w)) + (eqL w h M l (x + 1))))]) dX7_squaresRound_109 cf_7_114 (c_X2_lineThrough hs (by omega)) (by decide) (sk_l hs 7 (by decide)) (sk_k7 hs) rfl rfl (Nat.le_of_ble_eq_true rfl) ?_
    refine rn_top (y := nI (lnum w h M (x))) (hL.1 _ (by omega)).1 ?_
    refine rn_iload_n dX7_squaresRound_112 rfl rfl ?_
    refine rn_icmp_ne (tgt := 120) dX7_squaresRound_113 (by decide) (fun c_113 => ?_) (fun c_113 => ?_)
    · refine rn_iconst (v := nI 0) dX7_squaresRound_120 (by decide) ?_
      refine rn_top (y := nI (eqL w h M l (x))) (by unfold eqL; first | rw [if_pos c_113] | rw [if_neg c_113]) ?_
      exact J121
    · refine rn_iconst (v := nI 1) dX7_squaresRound_116 (by decide) ?_
      refine rn_goto (tgt := 121) dX7_squaresRound_117 (by decide) ?_
      refine rn_top (y := nI (eqL w h M l (x))) (by unfold eqL; first | rw [if_pos c_113] | rw [if_neg c_113]) ?_
      exact J121
  have J67 : am_Rn 1 Y_X7_squaresRound (0, 0) 67 [some (.ref 0), some (.int l), some (.int (nI i)), some (.int (nI j)), some (.int (nI (2 * w))), some (.int (nI (x + 2 * w + 1))), some (.int (nI (0 + eqL w h M l (x + 2 * w + 1))))] [.int (nI (eqL w h M l (x + 2 * w))), .int (nI (0 + eqL w h M l (x + 2 * w + 1)))] S I (am_q (some (.int (nI (c4 w h M l x)))) S I) := by
    refine rn_iadd dX7_squaresRound_67 ?_
    refine rn_top (nI_add _ _) ?_
    refine rn_istore (ls' := [some (.ref 0), some (.int l), some (.int (nI i)), some (.int (nI j)), some (.int (nI (2 * w))), some (.int (nI (x + 2 * w + 1))), some (.int (nI ((0 + eqL w h M l (x + 2 * w + 1)) + (eqL w h M l (x + 2 * w)))))]) dX7_squaresRound_68 (by decide) rfl rfl ?_
    refine rn_iload dX7_squaresRound_70 rfl ?_
    refine rn_aload_n dX7_squaresRound_72 rfl rfl ?_
    refine rn_getR (r := 7) dX7_squaresRound_73 fd_7_43 (sk_l hs 0 (by decide)) (sk_k0 hs) rfl (sk_r0_4 hs) ?_
    refine rn_iload dX7_squaresRound_76 rfl ?_
    refine rn_iload dX7_squaresRound_78 rfl ?_
    refine rn_isub dX7_squaresRound_80 ?_
    refine rn_top (pk_sub (by omega)) ?_
    refine rn_top (y := nI (x + 1)) (by first | (congr 1; omega) | congr 1) ?_
    refine rn_callVq (st := [.int (nI ((0 + eqL w h M l (x + 2 * w + 1)) + (eqL w h M l (x + 2 * w))))]) dX7_squaresRound_81 cf_7_114 (c_X2_lineThrough hs (by omega)) (by decide) (sk_l hs 7 (by decide)) (sk_k7 hs) rfl rfl (Nat.le_of_ble_eq_true rfl) ?_
    refine rn_top (y := nI (lnum w h M (x + 1))) (hL.1 _ (by omega)).1 ?_
    refine rn_iload_n dX7_squaresRound_84 rfl rfl ?_
    refine rn_icmp_ne (tgt := 92) dX7_squaresRound_85 (by decide) (fun c_85 => ?_) (fun c_85 => ?_)
    · refine rn_iconst (v := nI 0) dX7_squaresRound_92 (by decide) ?_
      refine rn_top (y := nI (eqL w h M l (x + 1))) (by unfold eqL; first | rw [if_pos c_85] | rw [if_neg c_85]) ?_
      exact J93
    · refine rn_iconst (v := nI 1) dX7_squaresRound_88 (by decide) ?_
      refine rn_goto (tgt := 93) dX7_squaresRound_89 (by decide) ?_
      refine rn_top (y := nI (eqL w h M l (x + 1))) (by unfold eqL; first | rw [if_pos c_85] | rw [if_neg c_85]) ?_
      exact J93
  have J42 : am_Rn 1 Y_X7_squaresRound (0, 0) 42 [some (.ref 0), some (.int l), some (.int (nI i)), some (.int (nI j)), some (.int (nI (2 * w))), some (.int (nI (x + 2 * w + 1))), some (.int (nI 0))] [.int (nI (eqL w h M l (x + 2 * w + 1))), .int (nI 0)] S I (am_q (some (.int (nI (c4 w h M l x)))) S I) := by
    refine rn_iadd dX7_squaresRound_42 ?_
    refine rn_top (nI_add _ _) ?_
    refine rn_istore (ls' := [some (.ref 0), some (.int l), some (.int (nI i)), some (.int (nI j)), some (.int (nI (2 * w))), some (.int (nI (x + 2 * w + 1))), some (.int (nI (0 + (eqL w h M l (x + 2 * w + 1)))))]) dX7_squaresRound_43 (by decide) rfl rfl ?_
    refine rn_iload dX7_squaresRound_45 rfl ?_
    refine rn_aload_n dX7_squaresRound_47 rfl rfl ?_
    refine rn_getR (r := 7) dX7_squaresRound_48 fd_7_43 (sk_l hs 0 (by decide)) (sk_k0 hs) rfl (sk_r0_4 hs) ?_
    refine rn_iload dX7_squaresRound_51 rfl ?_
    refine rn_iconst (v := nI 1) dX7_squaresRound_53 (by decide) ?_
    refine rn_isub dX7_squaresRound_54 ?_
    refine rn_top (pk_sub (by omega)) ?_
    refine rn_top (y := nI (x + 2 * w)) (by first | (congr 1; omega) | congr 1) ?_
    refine rn_callVq (st := [.int (nI (0 + (eqL w h M l (x + 2 * w + 1))))]) dX7_squaresRound_55 cf_7_114 (c_X2_lineThrough hs (by omega)) (by decide) (sk_l hs 7 (by decide)) (sk_k7 hs) rfl rfl (Nat.le_of_ble_eq_true rfl) ?_
    refine rn_top (y := nI (lnum w h M (x + 2 * w))) (hL.1 _ (by omega)).1 ?_
    refine rn_iload_n dX7_squaresRound_58 rfl rfl ?_
    refine rn_icmp_ne (tgt := 66) dX7_squaresRound_59 (by decide) (fun c_59 => ?_) (fun c_59 => ?_)
    · refine rn_iconst (v := nI 0) dX7_squaresRound_66 (by decide) ?_
      refine rn_top (y := nI (eqL w h M l (x + 2 * w))) (by unfold eqL; first | rw [if_pos c_59] | rw [if_neg c_59]) ?_
      exact J67
    · refine rn_iconst (v := nI 1) dX7_squaresRound_62 (by decide) ?_
      refine rn_goto (tgt := 67) dX7_squaresRound_63 (by decide) ?_
      refine rn_top (y := nI (eqL w h M l (x + 2 * w))) (by unfold eqL; first | rw [if_pos c_59] | rw [if_neg c_59]) ?_
      exact J67
  refine am_mt ⟨by decide +kernel, rfl⟩ (Nat.le_of_ble_eq_true rfl) rfl ?_
  refine rn_iconst (v := nI 2) dX7_squaresRound_0 (by decide) ?_
  refine rn_aload_n dX7_squaresRound_1 rfl rfl ?_
  refine rn_getR (r := 1) dX7_squaresRound_2 fd_7_10 (sk_l hs 0 (by decide)) (sk_k0 hs) rfl (sk_r0_0 hs) ?_
  refine rn_getI dX7_squaresRound_5 fd_7_133 (sk_l hs 1 (by decide)) (sk_k1 hs) rfl ?_
  refine rn_top (y := nI w) (hX.1) ?_
  refine rn_imul dX7_squaresRound_8 ?_
  refine rn_top (pk_mul _ _) ?_
  refine rn_istore (ls' := [some (.ref 0), some (.int l), some (.int (nI i)), some (.int (nI j)), some (.int (nI (2 * w))), none, none]) dX7_squaresRound_9 (by decide) rfl rfl ?_
  refine rn_iload dX7_squaresRound_11 rfl ?_
  refine rn_iload_n dX7_squaresRound_13 rfl rfl ?_
  refine rn_imul dX7_squaresRound_14 ?_
  refine rn_top (pk_mul _ _) ?_
  refine rn_iload_n dX7_squaresRound_15 rfl rfl ?_
  refine rn_iadd dX7_squaresRound_16 ?_
  refine rn_top (nI_add _ _) ?_
  refine rn_top (y := nI (x + 2 * w + 1)) (by rw [hx]) ?_
  refine rn_istore (ls' := [some (.ref 0), some (.int l), some (.int (nI i)), some (.int (nI j)), some (.int (nI (2 * w))), some (.int (nI (x + 2 * w + 1))), none]) dX7_squaresRound_17 (by decide) rfl rfl ?_
  refine rn_iconst (v := nI 0) dX7_squaresRound_19 (by decide) ?_
  refine rn_istore (ls' := [some (.ref 0), some (.int l), some (.int (nI i)), some (.int (nI j)), some (.int (nI (2 * w))), some (.int (nI (x + 2 * w + 1))), some (.int (nI 0))]) dX7_squaresRound_20 (by decide) rfl rfl ?_
  refine rn_iload dX7_squaresRound_22 rfl ?_
  refine rn_aload_n dX7_squaresRound_24 rfl rfl ?_
  refine rn_getR (r := 7) dX7_squaresRound_25 fd_7_43 (sk_l hs 0 (by decide)) (sk_k0 hs) rfl (sk_r0_4 hs) ?_
  refine rn_iload dX7_squaresRound_28 rfl ?_
  refine rn_callVq (st := [.int (nI 0)]) dX7_squaresRound_30 cf_7_114 (c_X2_lineThrough hs (by omega)) (by decide) (sk_l hs 7 (by decide)) (sk_k7 hs) rfl rfl (Nat.le_of_ble_eq_true rfl) ?_
  refine rn_top (y := nI (lnum w h M (x + 2 * w + 1))) (hL.1 _ (by omega)).1 ?_
  refine rn_iload_n dX7_squaresRound_33 rfl rfl ?_
  refine rn_icmp_ne (tgt := 41) dX7_squaresRound_34 (by decide) (fun c_34 => ?_) (fun c_34 => ?_)
  · refine rn_iconst (v := nI 0) dX7_squaresRound_41 (by decide) ?_
    refine rn_top (y := nI (eqL w h M l (x + 2 * w + 1))) (by unfold eqL; first | rw [if_pos c_34] | rw [if_neg c_34]) ?_
    exact J42
  · refine rn_iconst (v := nI 1) dX7_squaresRound_37 (by decide) ?_
    refine rn_goto (tgt := 42) dX7_squaresRound_38 (by decide) ?_
    refine rn_top (y := nI (eqL w h M l (x + 2 * w + 1))) (by unfold eqL; first | rw [if_pos c_34] | rw [if_neg c_34]) ?_
    exact J42
