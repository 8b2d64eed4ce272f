noncomputable def f4 (w h : Nat) (M : Nat → Nat → Nat) (l : Int32) (i j : Nat) : Nat := if c4 w h M l (ulS w i j) = 4 then 1 else 0
theorem f4_le (w h : Nat) (M : Nat → Nat → Nat) (l : Int32) (i j : Nat) : f4 w h M l i j ≤ 1 := by unfold f4; split <;> omega
noncomputable def dsum (w h : Nat) (M : Nat → Nat → Nat) (l : Int32) (m : Nat) : Nat := sumN (fun y => sumN (fun x => (if m ≤ c4 w h M l (2 * w * (2 * y) + 2 * x) then 1 else 0)) w) h
noncomputable def vLineIn (w h : Nat) (M : Nat → Nat → Nat) (l : Int32) (n : Nat) (t : Int32) : Int32 := if t = nI 0 then nI (llen w h M n) else if t = nI 1 then nI (lwk w h M (lbeg w h M n)) else if t = nI 2 then nI (dsum w h M l 4) else if t = nI 3 then nI (dsum w h M l 1) else if t = nI 4 then nI (cntP (f4 w h M l) (pts w h)) else -1
noncomputable def vLine (w h : Nat) (M : Nat → Nat → Nat) (l t : Int32) : Int32 := if pb (isLn w h M l) = true then vLineIn w h M l l.toInt.toNat t else -1
section VL
variable {w h : Nat} {M : Nat → Nat → Nat} {l : Int32} {n : Nat}
theorem vLineIn_0 : vLineIn w h M l n (nI 0) = nI (llen w h M n) := by unfold vLineIn; rw [if_pos rfl]
theorem vLineIn_1 : vLineIn w h M l n (nI 1) = nI (lwk w h M (lbeg w h M n)) := by unfold vLineIn; rw [if_neg (by decide), if_pos rfl]
theorem vLineIn_2 : vLineIn w h M l n (nI 2) = nI (dsum w h M l 4) := by unfold vLineIn; rw [if_neg (by decide), if_neg (by decide), if_pos rfl]
theorem vLineIn_3 : vLineIn w h M l n (nI 3) = nI (dsum w h M l 1) := by unfold vLineIn; rw [if_neg (by decide), if_neg (by decide), if_neg (by decide), if_pos rfl]
theorem vLineIn_4 : vLineIn w h M l n (nI 4) = nI (cntP (f4 w h M l) (pts w h)) := by unfold vLineIn; rw [if_neg (by decide), if_neg (by decide), if_neg (by decide), if_neg (by decide), if_pos rfl]
theorem vLineIn_n {t : Int32} (h0 : ¬ t = nI 0) (h1 : ¬ t = nI 1) (h2 : ¬ t = nI 2) (h3 : ¬ t = nI 3) (h4 : ¬ t = nI 4) : vLineIn w h M l n t = -1 := by unfold vLineIn; rw [if_neg h0, if_neg h1, if_neg h2, if_neg h3, if_neg h4]
theorem tb_out {t : Int32} (h0 : ¬ t = nI 0) (h1 : ¬ t = nI 1) (h2 : ¬ t = nI 2) (h3 : ¬ t = nI 3) (h4 : ¬ t = nI 4) : t.toInt < 0 ∨ 4 < t.toInt := by
  rw [z_eq, z_nI (by decide)] at h0 h1 h2 h3 h4
  omega
end VL
set_option maxHeartbeats 1000000 in
set_option maxRecDepth 100000 in
theorem c_X7_pointsMetTwice {S : am_S} (hs : sk S) {I : am_I} {w h : Nat} {M : Nat → Nat → Nat} (w1 : 1 ≤ w) (w8 : w ≤ 8) (h1 : 1 ≤ h) (h8 : h ≤ 8) (hX : isDr I 1 2 w h M) (hL : LX w h M I 8 9 10 11) (l : Int32) : am_Mt 2 Y_X7_pointsMetTwice (0, 0) [.ref 0, .int l] S I (am_q (some (.int (nI (cntP (f4 w h M l) (pts w h))))) S I) := by
  have h256 := sq_bound w8 h8
  have LJ : ∀ m j, 2 * h - j ≤ m → 1 ≤ j → j ≤ 2 * h → ∀ acc, cntP (f4 w h M l) (pts w h) = acc + cntP (f4 w h M l) (rowsP w h j) → am_Rn 2 Y_X7_pointsMetTwice (0, 0) 4 [some (.ref 0), some (.int l), some (.int (nI acc)), some (.int (nI j)), none] [] S I (am_q (some (.int (nI (cntP (f4 w h M l) (pts w h))))) S I) := by
    generalize cntP (f4 w h M l) (pts w h) = T
    intro m
    induction m with
    | zero =>
      intro j hm hj1 hj2 acc hT
      refine rn_iload_n dX7_pointsMetTwice_4 rfl rfl ?_
      refine rn_iconst (v := nI 2) dX7_pointsMetTwice_5 (by decide) ?_
      refine rn_aload_n dX7_pointsMetTwice_6 rfl rfl ?_
      refine rn_getR (r := 1) dX7_pointsMetTwice_7 fd_7_10 (sk_l hs 0 (by decide)) (sk_k0 hs) rfl (sk_r0_0 hs) ?_
      refine rn_getI dX7_pointsMetTwice_10 fd_7_136 (sk_l hs 1 (by decide)) (sk_k1 hs) rfl ?_
      refine rn_top (y := nI h) (hX.2.1) ?_
      refine rn_imul dX7_pointsMetTwice_13 ?_
      refine rn_top (pk_mul _ _) ?_
      refine rn_icmp_geN (tgt := 65) dX7_pointsMetTwice_14 (by decide) (by omega) (by omega) (fun c_14 => ?_) (fun c_14 => ?_)
      · refine rn_iload_n dX7_pointsMetTwice_65 rfl rfl ?_
        refine rn_ireturn dX7_pointsMetTwice_66 rfl (vp_nar_int _) ?_
        rw [rowsP_n (by omega), cntP] at hT
        exact ⟨by rw [hT, Nat.add_zero], rfl, rfl⟩
      · omega
    | succ m ihj =>
      intro j hm hj1 hj2 acc hT
      have LI : ∀ n i, 2 * w - i ≤ n → 1 ≤ i → i ≤ 2 * w + 1 → (i + j) % 2 = 1 → ∀ acc, j < 2 * h → T = acc + (cntP (f4 w h M l) (rowP w j i) + cntP (f4 w h M l) (rowsP w h (j + 1))) → am_Rn 2 Y_X7_pointsMetTwice (0, 0) 24 [some (.ref 0), some (.int l), some (.int (nI acc)), some (.int (nI j)), some (.int (nI i))] [] S I (am_q (some (.int (nI T))) S I) := by
        intro n
        induction n with
        | zero =>
          intro i hm2 hi1 hi2 hp acc hjh hT
          have K : ∀ acc, T = acc + cntP (f4 w h M l) (rowsP w h (j + 1)) → am_Rn 2 Y_X7_pointsMetTwice (0, 0) 59 [some (.ref 0), some (.int l), some (.int (nI acc)), some (.int (nI j)), none] [] S I (am_q (some (.int (nI T))) S I) := by
            intro acc hq
            refine rn_iinc (v := nI (j + 1)) (ls' := [some (.ref 0), some (.int l), some (.int (nI acc)), some (.int (nI (j + 1))), none]) dX7_pointsMetTwice_59 rfl (nI_add _ 1) (by decide) rfl rfl ?_
            refine rn_goto (tgt := 4) dX7_pointsMetTwice_62 (by decide) ?_
            exact ihj (j + 1) (by omega) (by omega) (by omega) _ hq
          refine rn_iload dX7_pointsMetTwice_24 rfl ?_
          refine rn_iconst (v := nI 2) dX7_pointsMetTwice_26 (by decide) ?_
          refine rn_aload_n dX7_pointsMetTwice_27 rfl rfl ?_
          refine rn_getR (r := 1) dX7_pointsMetTwice_28 fd_7_10 (sk_l hs 0 (by decide)) (sk_k0 hs) rfl (sk_r0_0 hs) ?_
          refine rn_getI dX7_pointsMetTwice_31 fd_7_133 (sk_l hs 1 (by decide)) (sk_k1 hs) rfl ?_
          refine rn_top (y := nI w) (hX.1) ?_
          refine rn_imul dX7_pointsMetTwice_34 ?_
          refine rn_top (pk_mul _ _) ?_
          refine rn_icmp_geN (tgt := 59) dX7_pointsMetTwice_35 (by decide) (by omega) (by omega) (fun c_35 => ?_) (fun c_35 => ?_)
          · rw [rowP_n (by omega), cntP] at hT
            refine rn_ls (ls' := [some (.ref 0), some (.int l), some (.int (nI acc)), some (.int (nI j)), none]) rfl (fun k x h => by rcases k with _ | _ | _ | _ | _ | k <;> first | exact h | (simp at h)) ?_
            exact K acc (by omega)
          · omega
        | succ n ih =>
          intro i hm2 hi1 hi2 hp acc hjh hT
          have K : ∀ acc, T = acc + cntP (f4 w h M l) (rowsP w h (j + 1)) → am_Rn 2 Y_X7_pointsMetTwice (0, 0) 59 [some (.ref 0), some (.int l), some (.int (nI acc)), some (.int (nI j)), none] [] S I (am_q (some (.int (nI T))) S I) := by
            intro acc hq
            refine rn_iinc (v := nI (j + 1)) (ls' := [some (.ref 0), some (.int l), some (.int (nI acc)), some (.int (nI (j + 1))), none]) dX7_pointsMetTwice_59 rfl (nI_add _ 1) (by decide) rfl rfl ?_
            refine rn_goto (tgt := 4) dX7_pointsMetTwice_62 (by decide) ?_
            exact ihj (j + 1) (by omega) (by omega) (by omega) _ hq
          refine rn_iload dX7_pointsMetTwice_24 rfl ?_
          refine rn_iconst (v := nI 2) dX7_pointsMetTwice_26 (by decide) ?_
          refine rn_aload_n dX7_pointsMetTwice_27 rfl rfl ?_
          refine rn_getR (r := 1) dX7_pointsMetTwice_28 fd_7_10 (sk_l hs 0 (by decide)) (sk_k0 hs) rfl (sk_r0_0 hs) ?_
          refine rn_getI dX7_pointsMetTwice_31 fd_7_133 (sk_l hs 1 (by decide)) (sk_k1 hs) rfl ?_
          refine rn_top (y := nI w) (hX.1) ?_
          refine rn_imul dX7_pointsMetTwice_34 ?_
          refine rn_top (pk_mul _ _) ?_
          refine rn_icmp_geN (tgt := 59) dX7_pointsMetTwice_35 (by decide) (by omega) (by omega) (fun c_35 => ?_) (fun c_35 => ?_)
          · rw [rowP_n (by omega), cntP] at hT
            refine rn_ls (ls' := [some (.ref 0), some (.int l), some (.int (nI acc)), some (.int (nI j)), none]) rfl (fun k x h => by rcases k with _ | _ | _ | _ | _ | k <;> first | exact h | (simp at h)) ?_
            exact K acc (by omega)
          · have hin : nInner w h i j = true := nIn.mpr (by omega)
            rw [rowP_c (by omega), cntP] at hT
            have hc4 := c4_le w h M l (ulS w i j)
            refine rn_aload_n dX7_pointsMetTwice_38 rfl rfl ?_
            refine rn_iload_n dX7_pointsMetTwice_39 rfl rfl ?_
            refine rn_iload dX7_pointsMetTwice_40 rfl ?_
            refine rn_iload_n dX7_pointsMetTwice_42 rfl rfl ?_
            refine rn_callVq (st := []) dX7_pointsMetTwice_43 cf_7_139 (c_X7_squaresRound hs (x := ulS w i j) w8 h8 hX hL l (ul_b hin).2 (ul_b hin).1) (by decide) (sk_l hs 0 (by decide)) (sk_k0 hs) rfl rfl (Nat.le_of_ble_eq_true rfl) ?_
            refine rn_iconst (v := nI 4) dX7_pointsMetTwice_46 (by decide) ?_
            refine rn_icmp_neN (tgt := 53) dX7_pointsMetTwice_47 (by decide) (by omega) (by omega) (fun c_47 => ?_) (fun c_47 => ?_)
            · refine rn_iinc (v := nI (i + 2)) (ls' := [some (.ref 0), some (.int l), some (.int (nI acc)), some (.int (nI j)), some (.int (nI (i + 2)))]) dX7_pointsMetTwice_53 rfl (nI_add _ 2) (by decide) rfl rfl ?_
              refine rn_goto (tgt := 24) dX7_pointsMetTwice_56 (by decide) ?_
              exact ih (i + 2) (by omega) (by omega) (by omega) (by omega) _ hjh (by rw [hT, show f4 w h M l (i, j).1 (i, j).2 = _ from if_neg c_47]; omega)
            · refine rn_iinc (v := nI (acc + 1)) (ls' := [some (.ref 0), some (.int l), some (.int (nI (acc + 1))), some (.int (nI j)), some (.int (nI i))]) dX7_pointsMetTwice_50 rfl (nI_add _ 1) (by decide) rfl rfl ?_
              refine rn_iinc (v := nI (i + 2)) (ls' := [some (.ref 0), some (.int l), some (.int (nI (acc + 1))), some (.int (nI j)), some (.int (nI (i + 2)))]) dX7_pointsMetTwice_53 rfl (nI_add _ 2) (by decide) rfl rfl ?_
              refine rn_goto (tgt := 24) dX7_pointsMetTwice_56 (by decide) ?_
              exact ih (i + 2) (by omega) (by omega) (by omega) (by omega) _ hjh (by rw [hT, show f4 w h M l (i, j).1 (i, j).2 = _ from if_pos c_47]; omega)
      refine rn_iload_n dX7_pointsMetTwice_4 rfl rfl ?_
      refine rn_iconst (v := nI 2) dX7_pointsMetTwice_5 (by decide) ?_
      refine rn_aload_n dX7_pointsMetTwice_6 rfl rfl ?_
      refine rn_getR (r := 1) dX7_pointsMetTwice_7 fd_7_10 (sk_l hs 0 (by decide)) (sk_k0 hs) rfl (sk_r0_0 hs) ?_
      refine rn_getI dX7_pointsMetTwice_10 fd_7_136 (sk_l hs 1 (by decide)) (sk_k1 hs) rfl ?_
      refine rn_top (y := nI h) (hX.2.1) ?_
      refine rn_imul dX7_pointsMetTwice_13 ?_
      refine rn_top (pk_mul _ _) ?_
      refine rn_icmp_geN (tgt := 65) dX7_pointsMetTwice_14 (by decide) (by omega) (by omega) (fun c_14 => ?_) (fun c_14 => ?_)
      · refine rn_iload_n dX7_pointsMetTwice_65 rfl rfl ?_
        refine rn_ireturn dX7_pointsMetTwice_66 rfl (vp_nar_int _) ?_
        rw [rowsP_n (by omega), cntP] at hT
        exact ⟨by rw [hT, Nat.add_zero], rfl, rfl⟩
      · rw [rowsP_c (by omega), cntP_app] at hT
        refine rn_iconst (v := nI 1) dX7_pointsMetTwice_17 (by decide) ?_
        refine rn_iload_n dX7_pointsMetTwice_18 rfl rfl ?_
        refine rn_iconst (v := nI 1) dX7_pointsMetTwice_19 (by decide) ?_
        refine rn_iand dX7_pointsMetTwice_20 ?_
        refine rn_top (z_nand (by omega)) ?_
        refine rn_iadd dX7_pointsMetTwice_21 ?_
        refine rn_top (nI_add _ _) ?_
        refine rn_istore (ls' := [some (.ref 0), some (.int l), some (.int (nI acc)), some (.int (nI j)), some (.int (nI (1 + (j % 2))))]) dX7_pointsMetTwice_22 (by decide) rfl rfl ?_
        exact LI _ (1 + j % 2) (Nat.le_refl _) (by omega) (by omega) (by omega) acc (by omega) (by omega)
  refine am_mt ⟨by decide +kernel, rfl⟩ (Nat.le_of_ble_eq_true rfl) rfl ?_
  refine rn_iconst (v := nI 0) dX7_pointsMetTwice_0 (by decide) ?_
  refine rn_istore_n (ls' := [some (.ref 0), some (.int l), some (.int (nI 0)), none, none]) dX7_pointsMetTwice_1 rfl (by decide) rfl rfl ?_
  refine rn_iconst (v := nI 1) dX7_pointsMetTwice_2 (by decide) ?_
  refine rn_istore_n (ls' := [some (.ref 0), some (.int l), some (.int (nI 0)), some (.int (nI 1)), none]) dX7_pointsMetTwice_3 rfl (by decide) rfl rfl ?_
  exact LJ _ 1 (Nat.le_refl _) (by omega) (by omega) 0 (by rw [Nat.zero_add]; rfl)
set_option maxHeartbeats 1000000 in
set_option maxRecDepth 100000 in
theorem c_X8_strand0 {S : am_S} (hs : sk S) {I : am_I} {w h i j : Nat} {M : Nat → Nat → Nat} (w8 : w ≤ 8) (h8 : h ≤ 8) (hok : okM w h M) (hG : isGr I 0 w h M) (hL : LX w h M I 49 50 51 52) (hin : nInner w h i j = true) : am_Mt 1 Y_X8_strand (0, 0) [.ref 44, .int (nI i), .int (nI j), .int (nI 0)] S I (am_q (some (.int (nI (lnum w h M (ulS w i j))))) S I) := by
  have h256 := sq_bound w8 h8
  have hb := nIn.mp hin
  have hu := ul_b hin
  have hm2 := hok i j hin
  refine am_mt ⟨by decide +kernel, rfl⟩ (Nat.le_of_ble_eq_true rfl) rfl ?_
  refine rn_iconst (v := nI 2) dX8_strand_0 (by decide) ?_
  refine rn_aload_n dX8_strand_1 rfl rfl ?_
  refine rn_getR (r := 45) dX8_strand_2 fd_8_7 (sk_l hs 44 (by decide)) (sk_k44 hs) rfl (sk_r44_0 hs) ?_
  refine rn_iconst (v := nI 0) dX8_strand_5 (by decide) ?_
  refine rn_ialoadN dX8_strand_6 (sk_l hs 45 (by decide)) (sk_k45 hs) (by omega) (by omega) ?_
  refine rn_top (y := nI w) (hG.1) ?_
  refine rn_imul dX8_strand_7 ?_
  refine rn_top (pk_mul _ _) ?_
  refine rn_istore (ls' := [some (.ref 44), some (.int (nI i)), some (.int (nI j)), some (.int (nI 0)), some (.int (nI (2 * w))), none, none]) dX8_strand_8 (by decide) rfl rfl ?_
  refine rn_aload_n dX8_strand_10 rfl rfl ?_
  refine rn_getR (r := 47) dX8_strand_11 fd_8_16 (sk_l hs 44 (by decide)) (sk_k44 hs) rfl (sk_r44_2 hs) ?_
  refine rn_iconst (v := nI 0) dX8_strand_14 (by decide) ?_
  refine rn_iload_n dX8_strand_15 rfl rfl ?_
  refine rn_iload_n dX8_strand_16 rfl rfl ?_
  refine rn_callSq (st := [.ref 47]) dX8_strand_17 cf_8_77 (c_X8_cell S I _ _ _) (by decide) rfl rfl (Nat.le_of_ble_eq_true rfl) ?_
  refine rn_baloadN dX8_strand_20 (sk_l hs 47 (by decide)) (sk_k47 hs) (by decide) (by omega) (by omega) ?_
  refine rn_top (y := nI (M i j)) (by rw [hG.2.2 i j (by omega) (by omega), show gv w h M i j = M i j from if_pos hin]) ?_
  refine rn_istore (ls' := [some (.ref 44), some (.int (nI i)), some (.int (nI j)), some (.int (nI 0)), some (.int (nI (2 * w))), some (.int (nI (M i j))), none]) dX8_strand_21 (by decide) rfl rfl ?_
  refine rn_iload_n dX8_strand_23 rfl rfl ?_
  refine rn_if_neN (tgt := 31) dX8_strand_24 (by decide) (by omega) (fun c_24 => ?_) (fun c_24 => ?_)
  · exact absurd c_24 (by decide)
  · refine rn_iconst (v := nI 0) dX8_strand_27 (by decide) ?_
    refine rn_goto (tgt := 52) dX8_strand_28 (by decide) ?_
    refine rn_istore (ls' := [some (.ref 44), some (.int (nI i)), some (.int (nI j)), some (.int (nI 0)), some (.int (nI (2 * w))), some (.int (nI (M i j))), some (.int (nI 0))]) dX8_strand_52 (by decide) rfl rfl ?_
    refine rn_aload_n dX8_strand_54 rfl rfl ?_
    refine rn_getR (r := 49) dX8_strand_55 fd_8_24 (sk_l hs 44 (by decide)) (sk_k44 hs) rfl (sk_r44_5 hs) ?_
    refine rn_iload dX8_strand_58 rfl ?_
    refine rn_iload dX8_strand_60 rfl ?_
    refine rn_iconst (v := nI 2) dX8_strand_62 (by decide) ?_
    refine rn_icmp_geN (tgt := 72) dX8_strand_63 (by decide) (by omega) (by omega) (fun c_63 => ?_) (fun c_63 => ?_)
    · exact absurd c_63 (by decide)
    · refine rn_iload_n dX8_strand_66 rfl rfl ?_
      refine rn_iconst (v := nI 1) dX8_strand_67 (by decide) ?_
      refine rn_isub dX8_strand_68 ?_
      refine rn_top (pk_sub (by omega)) ?_
      refine rn_goto (tgt := 73) dX8_strand_69 (by decide) ?_
      refine rn_imul dX8_strand_73 ?_
      refine rn_top (pk_mul _ _) ?_
      refine rn_iload dX8_strand_74 rfl ?_
      refine rn_iconst (v := nI 2) dX8_strand_76 (by decide) ?_
      refine rn_irem dX8_strand_77 (by decide) ?_
      refine rn_top (pk_rem (by omega) (by omega) (by omega)) ?_
      refine rn_if_neN (tgt := 87) dX8_strand_78 (by decide) (by omega) (fun c_78 => ?_) (fun c_78 => ?_)
      · refine rn_iload_n dX8_strand_87 rfl rfl ?_
        refine rn_iadd dX8_strand_88 ?_
        refine rn_top (nI_add _ _) ?_
        refine rn_top (y := nI (ulS w i j)) (by rw [show ulS w i j = ulS w i j from rfl]; first | rfl | (congr 1; omega) | (congr 1; unfold ulS; omega)) ?_
        refine rn_ialoadN dX8_strand_89 (sk_l hs 49 (by decide)) (sk_k49 hs) (by omega) (by omega) ?_
        refine rn_top (y := nI (lnum w h M (ulS w i j))) ((hL.1 _ (by omega)).1) ?_
        refine rn_ireturn dX8_strand_90 rfl (vp_nar_int _) ?_
        exact ⟨rfl, rfl, rfl⟩
      · refine rn_iload_n dX8_strand_81 rfl rfl ?_
        refine rn_iconst (v := nI 1) dX8_strand_82 (by decide) ?_
        refine rn_isub dX8_strand_83 ?_
        refine rn_top (pk_sub (by omega)) ?_
        refine rn_goto (tgt := 88) dX8_strand_84 (by decide) ?_
        refine rn_iadd dX8_strand_88 ?_
        refine rn_top (nI_add _ _) ?_
        refine rn_top (y := nI (ulS w i j)) (by rw [show ulS w i j = ulS w i j from rfl]; first | rfl | (congr 1; omega) | (congr 1; unfold ulS; omega)) ?_
        refine rn_ialoadN dX8_strand_89 (sk_l hs 49 (by decide)) (sk_k49 hs) (by omega) (by omega) ?_
        refine rn_top (y := nI (lnum w h M (ulS w i j))) ((hL.1 _ (by omega)).1) ?_
        refine rn_ireturn dX8_strand_90 rfl (vp_nar_int _) ?_
        exact ⟨rfl, rfl, rfl⟩
set_option maxHeartbeats 1000000 in
set_option maxRecDepth 100000 in
theorem c_X8_strand1 {S : am_S} (hs : sk S) {I : am_I} {w h i j : Nat} {M : Nat → Nat → Nat} (w8 : w ≤ 8) (h8 : h ≤ 8) (hok : okM w h M) (hG : isGr I 0 w h M) (hL : LX w h M I 49 50 51 52) (hin : nInner w h i j = true) : am_Mt 1 Y_X8_strand (0, 0) [.ref 44, .int (nI i), .int (nI j), .int (nI 1)] S I (am_q (some (.int (nI (lnum w h M (st1 w M i j))))) S I) := by
  have h256 := sq_bound w8 h8
  have hb := nIn.mp hin
  have hu := ul_b hin
  have hm2 := hok i j hin
  have hs1 : st1 w M i j < 4 * w * h := by unfold st1; split <;> omega
  rcases (show M i j = 0 ∨ M i j = 1 ∨ M i j = 2 by omega) with hm | hm | hm
  · refine am_mt ⟨by decide +kernel, rfl⟩ (Nat.le_of_ble_eq_true rfl) rfl ?_
    refine rn_iconst (v := nI 2) dX8_strand_0 (by decide) ?_
    refine rn_aload_n dX8_strand_1 rfl rfl ?_
    refine rn_getR (r := 45) dX8_strand_2 fd_8_7 (sk_l hs 44 (by decide)) (sk_k44 hs) rfl (sk_r44_0 hs) ?_
    refine rn_iconst (v := nI 0) dX8_strand_5 (by decide) ?_
    refine rn_ialoadN dX8_strand_6 (sk_l hs 45 (by decide)) (sk_k45 hs) (by omega) (by omega) ?_
    refine rn_top (y := nI w) (hG.1) ?_
    refine rn_imul dX8_strand_7 ?_
    refine rn_top (pk_mul _ _) ?_
    refine rn_istore (ls' := [some (.ref 44), some (.int (nI i)), some (.int (nI j)), some (.int (nI 1)), some (.int (nI (2 * w))), none, none]) dX8_strand_8 (by decide) rfl rfl ?_
    refine rn_aload_n dX8_strand_10 rfl rfl ?_
    refine rn_getR (r := 47) dX8_strand_11 fd_8_16 (sk_l hs 44 (by decide)) (sk_k44 hs) rfl (sk_r44_2 hs) ?_
    refine rn_iconst (v := nI 0) dX8_strand_14 (by decide) ?_
    refine rn_iload_n dX8_strand_15 rfl rfl ?_
    refine rn_iload_n dX8_strand_16 rfl rfl ?_
    refine rn_callSq (st := [.ref 47]) dX8_strand_17 cf_8_77 (c_X8_cell S I _ _ _) (by decide) rfl rfl (Nat.le_of_ble_eq_true rfl) ?_
    refine rn_baloadN dX8_strand_20 (sk_l hs 47 (by decide)) (sk_k47 hs) (by decide) (by omega) (by omega) ?_
    refine rn_top (y := nI 0) (by rw [hG.2.2 i j (by omega) (by omega), show gv w h M i j = M i j from if_pos hin, hm]) ?_
    refine rn_istore (ls' := [some (.ref 44), some (.int (nI i)), some (.int (nI j)), some (.int (nI 1)), some (.int (nI (2 * w))), some (.int (nI 0)), none]) dX8_strand_21 (by decide) rfl rfl ?_
    refine rn_iload_n dX8_strand_23 rfl rfl ?_
    refine rn_if_neN (tgt := 31) dX8_strand_24 (by decide) (by omega) (fun c_24 => ?_) (fun c_24 => ?_)
    · refine rn_iload dX8_strand_31 rfl ?_
      refine rn_iconst (v := nI 1) dX8_strand_33 (by decide) ?_
      refine rn_icmp_neN (tgt := 41) dX8_strand_34 (by decide) (by omega) (by omega) (fun c_34 => ?_) (fun c_34 => ?_)
      · refine rn_iload dX8_strand_41 rfl ?_
        refine rn_iconst (v := nI 2) dX8_strand_43 (by decide) ?_
        refine rn_icmp_neN (tgt := 51) dX8_strand_44 (by decide) (by omega) (by omega) (fun c_44 => ?_) (fun c_44 => ?_)
        · refine rn_iconst (v := nI 1) dX8_strand_51 (by decide) ?_
          refine rn_istore (ls' := [some (.ref 44), some (.int (nI i)), some (.int (nI j)), some (.int (nI 1)), some (.int (nI (2 * w))), some (.int (nI 0)), some (.int (nI 1))]) dX8_strand_52 (by decide) rfl rfl ?_
          refine rn_aload_n dX8_strand_54 rfl rfl ?_
          refine rn_getR (r := 49) dX8_strand_55 fd_8_24 (sk_l hs 44 (by decide)) (sk_k44 hs) rfl (sk_r44_5 hs) ?_
          refine rn_iload dX8_strand_58 rfl ?_
          refine rn_iload dX8_strand_60 rfl ?_
          refine rn_iconst (v := nI 2) dX8_strand_62 (by decide) ?_
          refine rn_icmp_geN (tgt := 72) dX8_strand_63 (by decide) (by omega) (by omega) (fun c_63 => ?_) (fun c_63 => ?_)
          · exact absurd c_63 (by decide)
          · refine rn_iload_n dX8_strand_66 rfl rfl ?_
            refine rn_iconst (v := nI 1) dX8_strand_67 (by decide) ?_
            refine rn_isub dX8_strand_68 ?_
            refine rn_top (pk_sub (by omega)) ?_
            refine rn_goto (tgt := 73) dX8_strand_69 (by decide) ?_
            refine rn_imul dX8_strand_73 ?_
            refine rn_top (pk_mul _ _) ?_
            refine rn_iload dX8_strand_74 rfl ?_
            refine rn_iconst (v := nI 2) dX8_strand_76 (by decide) ?_
            refine rn_irem dX8_strand_77 (by decide) ?_
            refine rn_top (pk_rem (by omega) (by omega) (by omega)) ?_
            refine rn_if_neN (tgt := 87) dX8_strand_78 (by decide) (by omega) (fun c_78 => ?_) (fun c_78 => ?_)
            · refine rn_iload_n dX8_strand_87 rfl rfl ?_
              refine rn_iadd dX8_strand_88 ?_
              refine rn_top (nI_add _ _) ?_
              refine rn_top (y := nI (st1 w M i j)) (by rw [show st1 w M i j = ulS w i j + 1 from if_neg (by omega)]; first | rfl | (congr 1; omega) | (congr 1; unfold ulS; omega)) ?_
              refine rn_ialoadN dX8_strand_89 (sk_l hs 49 (by decide)) (sk_k49 hs) (by omega) (by omega) ?_
              refine rn_top (y := nI (lnum w h M (st1 w M i j))) ((hL.1 _ (by omega)).1) ?_
              refine rn_ireturn dX8_strand_90 rfl (vp_nar_int _) ?_
              exact ⟨rfl, rfl, rfl⟩
            · refine rn_iload_n dX8_strand_81 rfl rfl ?_
              refine rn_iconst (v := nI 1) dX8_strand_82 (by decide) ?_
              refine rn_isub dX8_strand_83 ?_
              refine rn_top (pk_sub (by omega)) ?_
              refine rn_goto (tgt := 88) dX8_strand_84 (by decide) ?_
              refine rn_iadd dX8_strand_88 ?_
              refine rn_top (nI_add _ _) ?_
              refine rn_top (y := nI (st1 w M i j)) (by rw [show st1 w M i j = ulS w i j + 1 from if_neg (by omega)]; first | rfl | (congr 1; omega) | (congr 1; unfold ulS; omega)) ?_
              refine rn_ialoadN dX8_strand_89 (sk_l hs 49 (by decide)) (sk_k49 hs) (by omega) (by omega) ?_
              refine rn_top (y := nI (lnum w h M (st1 w M i j))) ((hL.1 _ (by omega)).1) ?_
              refine rn_ireturn dX8_strand_90 rfl (vp_nar_int _) ?_
              exact ⟨rfl, rfl, rfl⟩
        · exact absurd c_44 (by decide)
      · exact absurd c_34 (by decide)
    · exact absurd c_24 (by decide)
  · refine am_mt ⟨by decide +kernel, rfl⟩ (Nat.le_of_ble_eq_true rfl) rfl ?_
    refine rn_iconst (v := nI 2) dX8_strand_0 (by decide) ?_
    refine rn_aload_n dX8_strand_1 rfl rfl ?_
    refine rn_getR (r := 45) dX8_strand_2 fd_8_7 (sk_l hs 44 (by decide)) (sk_k44 hs) rfl (sk_r44_0 hs) ?_
    refine rn_iconst (v := nI 0) dX8_strand_5 (by decide) ?_
    refine rn_ialoadN dX8_strand_6 (sk_l hs 45 (by decide)) (sk_k45 hs) (by omega) (by omega) ?_
    refine rn_top (y := nI w) (hG.1) ?_
    refine rn_imul dX8_strand_7 ?_
    refine rn_top (pk_mul _ _) ?_
    refine rn_istore (ls' := [some (.ref 44), some (.int (nI i)), some (.int (nI j)), some (.int (nI 1)), some (.int (nI (2 * w))), none, none]) dX8_strand_8 (by decide) rfl rfl ?_
    refine rn_aload_n dX8_strand_10 rfl rfl ?_
    refine rn_getR (r := 47) dX8_strand_11 fd_8_16 (sk_l hs 44 (by decide)) (sk_k44 hs) rfl (sk_r44_2 hs) ?_
    refine rn_iconst (v := nI 0) dX8_strand_14 (by decide) ?_
    refine rn_iload_n dX8_strand_15 rfl rfl ?_
    refine rn_iload_n dX8_strand_16 rfl rfl ?_
    refine rn_callSq (st := [.ref 47]) dX8_strand_17 cf_8_77 (c_X8_cell S I _ _ _) (by decide) rfl rfl (Nat.le_of_ble_eq_true rfl) ?_
    refine rn_baloadN dX8_strand_20 (sk_l hs 47 (by decide)) (sk_k47 hs) (by decide) (by omega) (by omega) ?_
    refine rn_top (y := nI 1) (by rw [hG.2.2 i j (by omega) (by omega), show gv w h M i j = M i j from if_pos hin, hm]) ?_
    refine rn_istore (ls' := [some (.ref 44), some (.int (nI i)), some (.int (nI j)), some (.int (nI 1)), some (.int (nI (2 * w))), some (.int (nI 1)), none]) dX8_strand_21 (by decide) rfl rfl ?_
    refine rn_iload_n dX8_strand_23 rfl rfl ?_
    refine rn_if_neN (tgt := 31) dX8_strand_24 (by decide) (by omega) (fun c_24 => ?_) (fun c_24 => ?_)
    · refine rn_iload dX8_strand_31 rfl ?_
      refine rn_iconst (v := nI 1) dX8_strand_33 (by decide) ?_
      refine rn_icmp_neN (tgt := 41) dX8_strand_34 (by decide) (by omega) (by omega) (fun c_34 => ?_) (fun c_34 => ?_)
      · exact absurd c_34 (by decide)
      · refine rn_iconst (v := nI 1) dX8_strand_37 (by decide) ?_
        refine rn_goto (tgt := 52) dX8_strand_38 (by decide) ?_
        refine rn_istore (ls' := [some (.ref 44), some (.int (nI i)), some (.int (nI j)), some (.int (nI 1)), some (.int (nI (2 * w))), some (.int (nI 1)), some (.int (nI 1))]) dX8_strand_52 (by decide) rfl rfl ?_
        refine rn_aload_n dX8_strand_54 rfl rfl ?_
        refine rn_getR (r := 49) dX8_strand_55 fd_8_24 (sk_l hs 44 (by decide)) (sk_k44 hs) rfl (sk_r44_5 hs) ?_
        refine rn_iload dX8_strand_58 rfl ?_
        refine rn_iload dX8_strand_60 rfl ?_
        refine rn_iconst (v := nI 2) dX8_strand_62 (by decide) ?_
        refine rn_icmp_geN (tgt := 72) dX8_strand_63 (by decide) (by omega) (by omega) (fun c_63 => ?_) (fun c_63 => ?_)
        · exact absurd c_63 (by decide)
        · refine rn_iload_n dX8_strand_66 rfl rfl ?_
          refine rn_iconst (v := nI 1) dX8_strand_67 (by decide) ?_
          refine rn_isub dX8_strand_68 ?_
          refine rn_top (pk_sub (by omega)) ?_
          refine rn_goto (tgt := 73) dX8_strand_69 (by decide) ?_
          refine rn_imul dX8_strand_73 ?_
          refine rn_top (pk_mul _ _) ?_
          refine rn_iload dX8_strand_74 rfl ?_
          refine rn_iconst (v := nI 2) dX8_strand_76 (by decide) ?_
          refine rn_irem dX8_strand_77 (by decide) ?_
          refine rn_top (pk_rem (by omega) (by omega) (by omega)) ?_
          refine rn_if_neN (tgt := 87) dX8_strand_78 (by decide) (by omega) (fun c_78 => ?_) (fun c_78 => ?_)
          · refine rn_iload_n dX8_strand_87 rfl rfl ?_
            refine rn_iadd dX8_strand_88 ?_
            refine rn_top (nI_add _ _) ?_
            refine rn_top (y := nI (st1 w M i j)) (by rw [show st1 w M i j = ulS w i j + 1 from if_neg (by omega)]; first | rfl | (congr 1; omega) | (congr 1; unfold ulS; omega)) ?_
            refine rn_ialoadN dX8_strand_89 (sk_l hs 49 (by decide)) (sk_k49 hs) (by omega) (by omega) ?_
            refine rn_top (y := nI (lnum w h M (st1 w M i j))) ((hL.1 _ (by omega)).1) ?_
            refine rn_ireturn dX8_strand_90 rfl (vp_nar_int _) ?_
            exact ⟨rfl, rfl, rfl⟩
          · refine rn_iload_n dX8_strand_81 rfl rfl ?_
            refine rn_iconst (v := nI 1) dX8_strand_82 (by decide) ?_
            refine rn_isub dX8_strand_83 ?_
            refine rn_top (pk_sub (by omega)) ?_
            refine rn_goto (tgt := 88) dX8_strand_84 (by decide) ?_
            refine rn_iadd dX8_strand_88 ?_
            refine rn_top (nI_add _ _) ?_
            refine rn_top (y := nI (st1 w M i j)) (by rw [show st1 w M i j = ulS w i j + 1 from if_neg (by omega)]; first | rfl | (congr 1; omega) | (congr 1; unfold ulS; omega)) ?_
            refine rn_ialoadN dX8_strand_89 (sk_l hs 49 (by decide)) (sk_k49 hs) (by omega) (by omega) ?_
            refine rn_top (y := nI (lnum w h M (st1 w M i j))) ((hL.1 _ (by omega)).1) ?_
            refine rn_ireturn dX8_strand_90 rfl (vp_nar_int _) ?_
            exact ⟨rfl, rfl, rfl⟩
    · exact absurd c_24 (by decide)
  · refine am_mt ⟨by decide +kernel, rfl⟩ (Nat.le_of_ble_eq_true rfl) rfl ?_
    refine rn_iconst (v := nI 2) dX8_strand_0 (by decide) ?_
    refine rn_aload_n dX8_strand_1 rfl rfl ?_
    refine rn_getR (r := 45) dX8_strand_2 fd_8_7 (sk_l hs 44 (by decide)) (sk_k44 hs) rfl (sk_r44_0 hs) ?_
    refine rn_iconst (v := nI 0) dX8_strand_5 (by decide) ?_
    refine rn_ialoadN dX8_strand_6 (sk_l hs 45 (by decide)) (sk_k45 hs) (by omega) (by omega) ?_
    refine rn_top (y := nI w) (hG.1) ?_
    refine rn_imul dX8_strand_7 ?_
    refine rn_top (pk_mul _ _) ?_
    refine rn_istore (ls' := [some (.ref 44), some (.int (nI i)), some (.int (nI j)), some (.int (nI 1)), some (.int (nI (2 * w))), none, none]) dX8_strand_8 (by decide) rfl rfl ?_
    refine rn_aload_n dX8_strand_10 rfl rfl ?_
    refine rn_getR (r := 47) dX8_strand_11 fd_8_16 (sk_l hs 44 (by decide)) (sk_k44 hs) rfl (sk_r44_2 hs) ?_
    refine rn_iconst (v := nI 0) dX8_strand_14 (by decide) ?_
    refine rn_iload_n dX8_strand_15 rfl rfl ?_
    refine rn_iload_n dX8_strand_16 rfl rfl ?_
    refine rn_callSq (st := [.ref 47]) dX8_strand_17 cf_8_77 (c_X8_cell S I _ _ _) (by decide) rfl rfl (Nat.le_of_ble_eq_true rfl) ?_
    refine rn_baloadN dX8_strand_20 (sk_l hs 47 (by decide)) (sk_k47 hs) (by decide) (by omega) (by omega) ?_
    refine rn_top (y := nI 2) (by rw [hG.2.2 i j (by omega) (by omega), show gv w h M i j = M i j from if_pos hin, hm]) ?_
    refine rn_istore (ls' := [some (.ref 44), some (.int (nI i)), some (.int (nI j)), some (.int (nI 1)), some (.int (nI (2 * w))), some (.int (nI 2)), none]) dX8_strand_21 (by decide) rfl rfl ?_
    refine rn_iload_n dX8_strand_23 rfl rfl ?_
    refine rn_if_neN (tgt := 31) dX8_strand_24 (by decide) (by omega) (fun c_24 => ?_) (fun c_24 => ?_)
    · refine rn_iload dX8_strand_31 rfl ?_
      refine rn_iconst (v := nI 1) dX8_strand_33 (by decide) ?_
      refine rn_icmp_neN (tgt := 41) dX8_strand_34 (by decide) (by omega) (by omega) (fun c_34 => ?_) (fun c_34 => ?_)
      · refine rn_iload dX8_strand_41 rfl ?_
        refine rn_iconst (v := nI 2) dX8_strand_43 (by decide) ?_
        refine rn_icmp_neN (tgt := 51) dX8_strand_44 (by decide) (by omega) (by omega) (fun c_44 => ?_) (fun c_44 => ?_)
        · exact absurd c_44 (by decide)
        · refine rn_iconst (v := nI 2) dX8_strand_47 (by decide) ?_
          refine rn_goto (tgt := 52) dX8_strand_48 (by decide) ?_
          refine rn_istore (ls' := [some (.ref 44), some (.int (nI i)), some (.int (nI j)), some (.int (nI 1)), some (.int (nI (2 * w))), some (.int (nI 2)), some (.int (nI 2))]) dX8_strand_52 (by decide) rfl rfl ?_
          refine rn_aload_n dX8_strand_54 rfl rfl ?_
          refine rn_getR (r := 49) dX8_strand_55 fd_8_24 (sk_l hs 44 (by decide)) (sk_k44 hs) rfl (sk_r44_5 hs) ?_
          refine rn_iload dX8_strand_58 rfl ?_
          refine rn_iload dX8_strand_60 rfl ?_
          refine rn_iconst (v := nI 2) dX8_strand_62 (by decide) ?_
          refine rn_icmp_geN (tgt := 72) dX8_strand_63 (by decide) (by omega) (by omega) (fun c_63 => ?_) (fun c_63 => ?_)
          · refine rn_iload_n dX8_strand_72 rfl rfl ?_
            refine rn_imul dX8_strand_73 ?_
            refine rn_top (pk_mul _ _) ?_
            refine rn_iload dX8_strand_74 rfl ?_
            refine rn_iconst (v := nI 2) dX8_strand_76 (by decide) ?_
            refine rn_irem dX8_strand_77 (by decide) ?_
            refine rn_top (pk_rem (by omega) (by omega) (by omega)) ?_
            refine rn_if_neN (tgt := 87) dX8_strand_78 (by decide) (by omega) (fun c_78 => ?_) (fun c_78 => ?_)
            · refine rn_iload_n dX8_strand_87 rfl rfl ?_
              refine rn_iadd dX8_strand_88 ?_
              refine rn_top (nI_add _ _) ?_
              refine rn_top (y := nI (st1 w M i j)) (by rw [show st1 w M i j = ulS w i j + 2 * w from if_pos hm]; first | rfl | (congr 1; omega) | (congr 1; unfold ulS; omega)) ?_
              refine rn_ialoadN dX8_strand_89 (sk_l hs 49 (by decide)) (sk_k49 hs) (by omega) (by omega) ?_
              refine rn_top (y := nI (lnum w h M (st1 w M i j))) ((hL.1 _ (by omega)).1) ?_
              refine rn_ireturn dX8_strand_90 rfl (vp_nar_int _) ?_
              exact ⟨rfl, rfl, rfl⟩
            · refine rn_iload_n dX8_strand_81 rfl rfl ?_
              refine rn_iconst (v := nI 1) dX8_strand_82 (by decide) ?_
              refine rn_isub dX8_strand_83 ?_
              refine rn_top (pk_sub (by omega)) ?_
              refine rn_goto (tgt := 88) dX8_strand_84 (by decide) ?_
              refine rn_iadd dX8_strand_88 ?_
              refine rn_top (nI_add _ _) ?_
              refine rn_top (y := nI (st1 w M i j)) (by rw [show st1 w M i j = ulS w i j + 2 * w from if_pos hm]; first | rfl | (congr 1; omega) | (congr 1; unfold ulS; omega)) ?_
              refine rn_ialoadN dX8_strand_89 (sk_l hs 49 (by decide)) (sk_k49 hs) (by omega) (by omega) ?_
              refine rn_top (y := nI (lnum w h M (st1 w M i j))) ((hL.1 _ (by omega)).1) ?_
              refine rn_ireturn dX8_strand_90 rfl (vp_nar_int _) ?_
              exact ⟨rfl, rfl, rfl⟩
          · exact absurd c_63 (by decide)
      · exact absurd c_34 (by decide)
    · exact absurd c_24 (by decide)
set_option maxHeartbeats 1000000 in
set_option maxRecDepth 100000 in
theorem c_X7_line {S : am_S} (hs : sk S) {I : am_I} {w h : Nat} {M : Nat → Nat → Nat} (w1 : 1 ≤ w) (w8 : w ≤ 8) (h1 : 1 ≤ h) (h8 : h ≤ 8) (hok : okM w h M) (hX : XL w h M I) (l t : Int32) : am_Mt 5 Y_X7_line (0, 0) [.ref 0, .int l, .int t] S I (fun r S' I' => r = some (.int (vLine w h M l t)) ∧ S' = S ∧ KW w h M I I') := by
  have h256 := sq_bound w8 h8
  have hcn := lcnt_le (h := h) (M := M) w1
  by_cases hl : isLn w h M l
  · obtain ⟨n, hln, rfl⟩ := isLn_ex hl
    have hbo := lbeg_ok (M := M) w1 hln
    have en : (nI n).toInt.toNat = n := by rw [z_nI (by omega)]; omega
    unfold vLine
    rw [pb_t hl, if_pos rfl, en]
    by_cases q0 : t = nI 0
    · rw [q0, vLineIn_0]
      refine am_mt ⟨by decide +kernel, rfl⟩ (Nat.le_of_ble_eq_true rfl) rfl ?_
      refine rn_aload_n dX7_line_0 rfl rfl ?_
      refine rn_callV0 (st := []) dX7_line_1 cf_7_103 (c_X7_knowLines hs w1 w8 h1 h8 hok hX) (by decide) (sk_l hs 0 (by decide)) (sk_k0 hs) rfl rfl (Nat.le_of_ble_eq_true rfl) (fun r1 S1 I1 hq => ?_)
      obtain ⟨rfl, rfl, hK⟩ := hq
      have hD1 := hK.dr hX
      refine rn_aload_n dX7_line_4 rfl rfl ?_
      refine rn_getR (r := 7) dX7_line_5 fd_7_43 (sk_l hs 0 (by decide)) (sk_k0 hs) rfl (sk_r0_4 hs) ?_
      refine rn_iload_n dX7_line_8 rfl rfl ?_
      refine rn_callVq (st := []) dX7_line_9 cf_7_118 (c_X2_isLine hs hK.2.2.2.2 (by omega) (nI n)) (by decide) (sk_l hs 7 (by decide)) (sk_k7 hs) rfl rfl (Nat.le_of_ble_eq_true rfl) ?_
      refine rn_if_neB (tgt := 17) dX7_line_12 (by decide) (fun c_12 => ?_) (fun c_12 => ?_)
      · refine rn_iload_n dX7_line_17 rfl rfl ?_
        refine rn_tableIn (off := 34) (tgt := 52) dX7_line_18 (by decide) (by decide) (by decide) (by decide) ?_
        refine rn_aload_n dX7_line_52 rfl rfl ?_
        refine rn_getR (r := 7) dX7_line_53 fd_7_43 (sk_l hs 0 (by decide)) (sk_k0 hs) rfl (sk_r0_4 hs) ?_
        refine rn_iload_n dX7_line_56 rfl rfl ?_
        refine rn_callVq (st := []) dX7_line_57 cf_7_121 (c_X2_lengthOf hs (l := n) hK.2.2.2.2 (by omega) hln (hK.2.2.2.1.2.2 n (by omega)) (hK.2.2.2.1.2.2 (n + 1) (by omega)) (by omega)) (by decide) (sk_l hs 7 (by decide)) (sk_k7 hs) rfl rfl (Nat.le_of_ble_eq_true rfl) ?_
        refine rn_ireturn dX7_line_60 rfl (vp_nar_int _) ?_
        exact ⟨rfl, rfl, hK.kw hX⟩
      · exact absurd hl (of_decide_eq_false (p := 0 ≤ (nI n).toInt ∧ (nI n).toInt < (lcnt w h M : Int)) c_12)
    by_cases q1 : t = nI 1
    · rw [q1, vLineIn_1]
      refine am_mt ⟨by decide +kernel, rfl⟩ (Nat.le_of_ble_eq_true rfl) rfl ?_
      refine rn_aload_n dX7_line_0 rfl rfl ?_
      refine rn_callV0 (st := []) dX7_line_1 cf_7_103 (c_X7_knowLines hs w1 w8 h1 h8 hok hX) (by decide) (sk_l hs 0 (by decide)) (sk_k0 hs) rfl rfl (Nat.le_of_ble_eq_true rfl) (fun r1 S1 I1 hq => ?_)
      obtain ⟨rfl, rfl, hK⟩ := hq
      have hD1 := hK.dr hX
      refine rn_aload_n dX7_line_4 rfl rfl ?_
      refine rn_getR (r := 7) dX7_line_5 fd_7_43 (sk_l hs 0 (by decide)) (sk_k0 hs) rfl (sk_r0_4 hs) ?_
      refine rn_iload_n dX7_line_8 rfl rfl ?_
      refine rn_callVq (st := []) dX7_line_9 cf_7_118 (c_X2_isLine hs hK.2.2.2.2 (by omega) (nI n)) (by decide) (sk_l hs 7 (by decide)) (sk_k7 hs) rfl rfl (Nat.le_of_ble_eq_true rfl) ?_
      refine rn_if_neB (tgt := 17) dX7_line_12 (by decide) (fun c_12 => ?_) (fun c_12 => ?_)
      · refine rn_iload_n dX7_line_17 rfl rfl ?_
        refine rn_tableIn (off := 43) (tgt := 61) dX7_line_18 (by decide) (by decide) (by decide) (by decide) ?_
        refine rn_aload_n dX7_line_61 rfl rfl ?_
        refine rn_getR (r := 7) dX7_line_62 fd_7_43 (sk_l hs 0 (by decide)) (sk_k0 hs) rfl (sk_r0_4 hs) ?_
        refine rn_iload_n dX7_line_65 rfl rfl ?_
        refine rn_iconst (v := nI 0) dX7_line_66 (by decide) ?_
        refine rn_callVq (st := []) dX7_line_67 cf_7_124 (c_X2_squareOf hs w1 w8 h8 hK.2.2.2.1 hK.2.2.2.2 hln (k := 0) (by unfold llen; omega)) (by decide) (sk_l hs 7 (by decide)) (sk_k7 hs) rfl rfl (Nat.le_of_ble_eq_true rfl) ?_
        refine rn_ireturn dX7_line_70 rfl (vp_nar_int _) ?_
        exact ⟨rfl, rfl, hK.kw hX⟩
      · exact absurd hl (of_decide_eq_false (p := 0 ≤ (nI n).toInt ∧ (nI n).toInt < (lcnt w h M : Int)) c_12)
    by_cases q2 : t = nI 2
    · rw [q2, vLineIn_2]
      refine am_mt ⟨by decide +kernel, rfl⟩ (Nat.le_of_ble_eq_true rfl) rfl ?_
      refine rn_aload_n dX7_line_0 rfl rfl ?_
      refine rn_callV0 (st := []) dX7_line_1 cf_7_103 (c_X7_knowLines hs w1 w8 h1 h8 hok hX) (by decide) (sk_l hs 0 (by decide)) (sk_k0 hs) rfl rfl (Nat.le_of_ble_eq_true rfl) (fun r1 S1 I1 hq => ?_)
      obtain ⟨rfl, rfl, hK⟩ := hq
      have hD1 := hK.dr hX
      refine rn_aload_n dX7_line_4 rfl rfl ?_
      refine rn_getR (r := 7) dX7_line_5 fd_7_43 (sk_l hs 0 (by decide)) (sk_k0 hs) rfl (sk_r0_4 hs) ?_
      refine rn_iload_n dX7_line_8 rfl rfl ?_
      refine rn_callVq (st := []) dX7_line_9 cf_7_118 (c_X2_isLine hs hK.2.2.2.2 (by omega) (nI n)) (by decide) (sk_l hs 7 (by decide)) (sk_k7 hs) rfl rfl (Nat.le_of_ble_eq_true rfl) ?_
      refine rn_if_neB (tgt := 17) dX7_line_12 (by decide) (fun c_12 => ?_) (fun c_12 => ?_)
      · refine rn_iload_n dX7_line_17 rfl rfl ?_
        refine rn_tableIn (off := 53) (tgt := 71) dX7_line_18 (by decide) (by decide) (by decide) (by decide) ?_
        refine rn_aload_n dX7_line_71 rfl rfl ?_
        refine rn_iload_n dX7_line_72 rfl rfl ?_
        refine rn_iconst (v := nI 4) dX7_line_73 (by decide) ?_
        refine rn_callVq (st := []) dX7_line_74 cf_7_127 (c_X7_dotsHeld hs w8 h8 hD1 hK.2.2.2.1 (nI n) (m := 4) (by decide)) (by decide) (sk_l hs 0 (by decide)) (sk_k0 hs) rfl rfl (Nat.le_of_ble_eq_true rfl) ?_
        refine rn_ireturn dX7_line_77 rfl (vp_nar_int _) ?_
        exact ⟨rfl, rfl, hK.kw hX⟩
      · exact absurd hl (of_decide_eq_false (p := 0 ≤ (nI n).toInt ∧ (nI n).toInt < (lcnt w h M : Int)) c_12)
    by_cases q3 : t = nI 3
    · rw [q3, vLineIn_3]
      refine am_mt ⟨by decide +kernel, rfl⟩ (Nat.le_of_ble_eq_true rfl) rfl ?_
      refine rn_aload_n dX7_line_0 rfl rfl ?_
      refine rn_callV0 (st := []) dX7_line_1 cf_7_103 (c_X7_knowLines hs w1 w8 h1 h8 hok hX) (by decide) (sk_l hs 0 (by decide)) (sk_k0 hs) rfl rfl (Nat.le_of_ble_eq_true rfl) (fun r1 S1 I1 hq => ?_)
      obtain ⟨rfl, rfl, hK⟩ := hq
      have hD1 := hK.dr hX
      refine rn_aload_n dX7_line_4 rfl rfl ?_
      refine rn_getR (r := 7) dX7_line_5 fd_7_43 (sk_l hs 0 (by decide)) (sk_k0 hs) rfl (sk_r0_4 hs) ?_
      refine rn_iload_n dX7_line_8 rfl rfl ?_
      refine rn_callVq (st := []) dX7_line_9 cf_7_118 (c_X2_isLine hs hK.2.2.2.2 (by omega) (nI n)) (by decide) (sk_l hs 7 (by decide)) (sk_k7 hs) rfl rfl (Nat.le_of_ble_eq_true rfl) ?_
      refine rn_if_neB (tgt := 17) dX7_line_12 (by decide) (fun c_12 => ?_) (fun c_12 => ?_)
      · refine rn_iload_n dX7_line_17 rfl rfl ?_
        refine rn_tableIn (off := 60) (tgt := 78) dX7_line_18 (by decide) (by decide) (by decide) (by decide) ?_
        refine rn_aload_n dX7_line_78 rfl rfl ?_
        refine rn_iload_n dX7_line_79 rfl rfl ?_
        refine rn_iconst (v := nI 1) dX7_line_80 (by decide) ?_
        refine rn_callVq (st := []) dX7_line_81 cf_7_127 (c_X7_dotsHeld hs w8 h8 hD1 hK.2.2.2.1 (nI n) (m := 1) (by decide)) (by decide) (sk_l hs 0 (by decide)) (sk_k0 hs) rfl rfl (Nat.le_of_ble_eq_true rfl) ?_
        refine rn_ireturn dX7_line_84 rfl (vp_nar_int _) ?_
        exact ⟨rfl, rfl, hK.kw hX⟩
      · exact absurd hl (of_decide_eq_false (p := 0 ≤ (nI n).toInt ∧ (nI n).toInt < (lcnt w h M : Int)) c_12)
    by_cases q4 : t = nI 4
    · rw [q4, vLineIn_4]
      refine am_mt ⟨by decide +kernel, rfl⟩ (Nat.le_of_ble_eq_true rfl) rfl ?_
      refine rn_aload_n dX7_line_0 rfl rfl ?_
      refine rn_callV0 (st := []) dX7_line_1 cf_7_103 (c_X7_knowLines hs w1 w8 h1 h8 hok hX) (by decide) (sk_l hs 0 (by decide)) (sk_k0 hs) rfl rfl (Nat.le_of_ble_eq_true rfl) (fun r1 S1 I1 hq => ?_)
      obtain ⟨rfl, rfl, hK⟩ := hq
      have hD1 := hK.dr hX
      refine rn_aload_n dX7_line_4 rfl rfl ?_
      refine rn_getR (r := 7) dX7_line_5 fd_7_43 (sk_l hs 0 (by decide)) (sk_k0 hs) rfl (sk_r0_4 hs) ?_
      refine rn_iload_n dX7_line_8 rfl rfl ?_
      refine rn_callVq (st := []) dX7_line_9 cf_7_118 (c_X2_isLine hs hK.2.2.2.2 (by omega) (nI n)) (by decide) (sk_l hs 7 (by decide)) (sk_k7 hs) rfl rfl (Nat.le_of_ble_eq_true rfl) ?_
      refine rn_if_neB (tgt := 17) dX7_line_12 (by decide) (fun c_12 => ?_) (fun c_12 => ?_)
      · refine rn_iload_n dX7_line_17 rfl rfl ?_
        refine rn_tableIn (off := 67) (tgt := 85) dX7_line_18 (by decide) (by decide) (by decide) (by decide) ?_
        refine rn_aload_n dX7_line_85 rfl rfl ?_
        refine rn_iload_n dX7_line_86 rfl rfl ?_
        refine rn_callVq (st := []) dX7_line_87 cf_7_130 (c_X7_pointsMetTwice hs w1 w8 h1 h8 hD1 hK.2.2.2.1 (nI n)) (by decide) (sk_l hs 0 (by decide)) (sk_k0 hs) rfl rfl (Nat.le_of_ble_eq_true rfl) ?_
        refine rn_ireturn dX7_line_90 rfl (vp_nar_int _) ?_
        exact ⟨rfl, rfl, hK.kw hX⟩
      · exact absurd hl (of_decide_eq_false (p := 0 ≤ (nI n).toInt ∧ (nI n).toInt < (lcnt w h M : Int)) c_12)
    rw [vLineIn_n q0 q1 q2 q3 q4]
    refine am_mt ⟨by decide +kernel, rfl⟩ (Nat.le_of_ble_eq_true rfl) rfl ?_
    refine rn_aload_n dX7_line_0 rfl rfl ?_
    refine rn_callV0 (st := []) dX7_line_1 cf_7_103 (c_X7_knowLines hs w1 w8 h1 h8 hok hX) (by decide) (sk_l hs 0 (by decide)) (sk_k0 hs) rfl rfl (Nat.le_of_ble_eq_true rfl) (fun r1 S1 I1 hq => ?_)
    obtain ⟨rfl, rfl, hK⟩ := hq
    have hD1 := hK.dr hX
    refine rn_aload_n dX7_line_4 rfl rfl ?_
    refine rn_getR (r := 7) dX7_line_5 fd_7_43 (sk_l hs 0 (by decide)) (sk_k0 hs) rfl (sk_r0_4 hs) ?_
    refine rn_iload_n dX7_line_8 rfl rfl ?_
    refine rn_callVq (st := []) dX7_line_9 cf_7_118 (c_X2_isLine hs hK.2.2.2.2 (by omega) (nI n)) (by decide) (sk_l hs 7 (by decide)) (sk_k7 hs) rfl rfl (Nat.le_of_ble_eq_true rfl) ?_
    refine rn_if_neB (tgt := 17) dX7_line_12 (by decide) (fun c_12 => ?_) (fun c_12 => ?_)
    · refine rn_iload_n dX7_line_17 rfl rfl ?_
      refine rn_tableOut (tgt := 91) dX7_line_18 (tb_out q0 q1 q2 q3 q4) (by decide) ?_
      refine rn_iconst (v := (-1)) dX7_line_91 (by decide) ?_
      refine rn_ireturn dX7_line_92 rfl (vp_nar_int _) ?_
      exact ⟨rfl, rfl, hK.kw hX⟩
    · exact absurd hl (of_decide_eq_false (p := 0 ≤ (nI n).toInt ∧ (nI n).toInt < (lcnt w h M : Int)) c_12)
  · unfold vLine
    rw [pb_f hl, if_neg (by decide)]
    refine am_mt ⟨by decide +kernel, rfl⟩ (Nat.le_of_ble_eq_true rfl) rfl ?_
    refine rn_aload_n dX7_line_0 rfl rfl ?_
    refine rn_callV0 (st := []) dX7_line_1 cf_7_103 (c_X7_knowLines hs w1 w8 h1 h8 hok hX) (by decide) (sk_l hs 0 (by decide)) (sk_k0 hs) rfl rfl (Nat.le_of_ble_eq_true rfl) (fun r1 S1 I1 hq => ?_)
    obtain ⟨rfl, rfl, hK⟩ := hq
    have hD1 := hK.dr hX
    refine rn_aload_n dX7_line_4 rfl rfl ?_
    refine rn_getR (r := 7) dX7_line_5 fd_7_43 (sk_l hs 0 (by decide)) (sk_k0 hs) rfl (sk_r0_4 hs) ?_
    refine rn_iload_n dX7_line_8 rfl rfl ?_
    refine rn_callVq (st := []) dX7_line_9 cf_7_118 (c_X2_isLine hs hK.2.2.2.2 (by omega) (l)) (by decide) (sk_l hs 7 (by decide)) (sk_k7 hs) rfl rfl (Nat.le_of_ble_eq_true rfl) ?_
    refine rn_if_neB (tgt := 17) dX7_line_12 (by decide) (fun c_12 => ?_) (fun c_12 => ?_)
    · exact absurd (of_decide_eq_true (p := 0 ≤ l.toInt ∧ l.toInt < (lcnt w h M : Int)) c_12) hl
    · refine rn_iconst (v := (-1)) dX7_line_15 (by decide) ?_
      refine rn_ireturn dX7_line_16 rfl (vp_nar_int _) ?_
      exact ⟨rfl, rfl, hK.kw hX⟩
theorem dsum_swap (w h : Nat) (M : Nat → Nat → Nat) (l : Int32) (m : Nat) : sumN (fun x => sumN (fun y => (if m ≤ c4 w h M l (2 * w * (2 * y) + 2 * x) then 1 else 0)) h) w = dsum w h M l m := sumN_swap (fun x y => (if m ≤ c4 w h M l (2 * w * (2 * y) + 2 * x) then 1 else 0)) w h
theorem f4_swap {w h : Nat} (M : Nat → Nat → Nat) (l : Int32) (w8 : w ≤ 8) (h8 : h ≤ 8) : sumN (fun i => sumN (fun j => if nInner w h i j = true then f4 w h M l i j else 0) 17) 17 = cntP (f4 w h M l) (pts w h) := by
  rw [cntP_pts _ w8 h8]
  exact sumN_swap (fun i j => if nInner w h i j = true then f4 w h M l i j else 0) 17 17
set_option maxHeartbeats 1000000 in
set_option maxRecDepth 100000 in
theorem l_X8_line2 {S : am_S} (hs : sk S) {I I1 : am_I} {w h : Nat} {M : Nat → Nat → Nat} (w1 : 1 ≤ w) (w8 : w ≤ 8) (h1 : 1 ≤ h) (h8 : h ≤ 8) (hok : okM w h M) (hG : isGr I1 0 w h M) (hLX : LX w h M I1 49 50 51 52) (hKM : KM I I1) (l : Int32) : am_Rn 4 Y_X8_line (0, 0) 84 [some (.ref 44), some (.int l), some (.int (nI 2)), some (.int (nI 0)), none, none] [] S I1 (fun r S' I' => r = some (.int (nI (dsum w h M l 4))) ∧ S' = S ∧ KM I I') := by
  have h256 := sq_bound w8 h8
  have LA : ∀ a, a ≤ w → am_Rn 4 Y_X8_line (0, 0) 87 [some (.ref 44), some (.int l), some (.int (nI 2)), some (.int (nI (sumN (fun x => sumN (fun y => (if 4 ≤ c4 w h M l (2 * w * (2 * y) + 2 * x) then 1 else 0)) h) a))), some (.int (nI a)), none] [] S I1 (fun r S' I' => r = some (.int (nI (dsum w h M l 4))) ∧ S' = S ∧ KM I I') := by
    refine am_loop w (fun a ha ihx => ?_)
    have LB : a < w → ∀ b, b ≤ h → am_Rn 4 Y_X8_line (0, 0) 101 [some (.ref 44), some (.int l), some (.int (nI 2)), some (.int (nI (sumN (fun x => sumN (fun y => (if 4 ≤ c4 w h M l (2 * w * (2 * y) + 2 * x) then 1 else 0)) h) a + sumN (fun y => (if 4 ≤ c4 w h M l (2 * w * (2 * y) + 2 * a) then 1 else 0)) b))), some (.int (nI a)), some (.int (nI b))] [] S I1 (fun r S' I' => r = some (.int (nI (dsum w h M l 4))) ∧ S' = S ∧ KM I I') := by
      intro c_95
      refine am_loop h (fun b hb ih => ?_)
      have K : am_Rn 4 Y_X8_line (0, 0) 148 [some (.ref 44), some (.int l), some (.int (nI 2)), some (.int (nI (sumN (fun x => sumN (fun y => (if 4 ≤ c4 w h M l (2 * w * (2 * y) + 2 * x) then 1 else 0)) h) a + sumN (fun y => (if 4 ≤ c4 w h M l (2 * w * (2 * y) + 2 * a) then 1 else 0)) h))), some (.int (nI a)), none] [] S I1 (fun r S' I' => r = some (.int (nI (dsum w h M l 4))) ∧ S' = S ∧ KM I I') := by
        refine rn_iinc (v := nI (a + 1)) (ls' := [some (.ref 44), some (.int l), some (.int (nI 2)), some (.int (nI (sumN (fun x => sumN (fun y => (if 4 ≤ c4 w h M l (2 * w * (2 * y) + 2 * x) then 1 else 0)) h) a + sumN (fun y => (if 4 ≤ c4 w h M l (2 * w * (2 * y) + 2 * a) then 1 else 0)) h))), some (.int (nI (a + 1))), none]) dX8_line_148 rfl (nI_add _ 1) (by decide) rfl rfl ?_
        refine rn_goto (tgt := 87) dX8_line_151 (by decide) ?_
        exact ihx c_95
      refine rn_iload dX8_line_101 rfl ?_
      refine rn_aload_n dX8_line_103 rfl rfl ?_
      refine rn_getR (r := 46) dX8_line_104 fd_8_13 (sk_l hs 44 (by decide)) (sk_k44 hs) rfl (sk_r44_1 hs) ?_
      refine rn_iconst (v := nI 0) dX8_line_107 (by decide) ?_
      refine rn_ialoadN dX8_line_108 (sk_l hs 46 (by decide)) (sk_k46 hs) (by omega) (by omega) ?_
      refine rn_top (y := nI h) (hG.2.1) ?_
      refine rn_icmp_geN (tgt := 148) dX8_line_109 (by decide) (by omega) (by omega) (fun c_109 => ?_) (fun c_109 => ?_)
      · refine rn_ls (ls' := [some (.ref 44), some (.int l), some (.int (nI 2)), some (.int (nI (sumN (fun x => sumN (fun y => (if 4 ≤ c4 w h M l (2 * w * (2 * y) + 2 * x) then 1 else 0)) h) a + sumN (fun y => (if 4 ≤ c4 w h M l (2 * w * (2 * y) + 2 * a) then 1 else 0)) b))), some (.int (nI a)), none]) rfl (fun k x h => by rcases k with _ | _ | _ | _ | _ | _ | k <;> first | exact h | (simp at h)) ?_
        rw [show b = h by omega]
        exact K
      · refine rn_iload_n dX8_line_112 rfl rfl ?_
        refine rn_aload_n dX8_line_113 rfl rfl ?_
        refine rn_iload_n dX8_line_114 rfl rfl ?_
        refine rn_iload dX8_line_115 rfl ?_
        refine rn_iload dX8_line_117 rfl ?_
        refine rn_callVq (st := [.int (nI (sumN (fun x => sumN (fun y => (if 4 ≤ c4 w h M l (2 * w * (2 * y) + 2 * x) then 1 else 0)) h) a + sumN (fun y => (if 4 ≤ c4 w h M l (2 * w * (2 * y) + 2 * a) then 1 else 0)) b))]) dX8_line_119 cf_8_99 (c_X8_held hs w8 h8 hG.1 hLX l c_95 c_109) (by decide) (sk_l hs 44 (by decide)) (sk_k44 hs) rfl rfl (Nat.le_of_ble_eq_true rfl) ?_
        have hc4 := c4_le w h M l (2 * w * (2 * b) + 2 * a)
        refine rn_iload_n dX8_line_122 rfl rfl ?_
        refine rn_iconst (v := nI 2) dX8_line_123 (by decide) ?_
        refine rn_icmp_neN (tgt := 131) dX8_line_124 (by decide) (by omega) (by omega) (fun c_124 => ?_) (fun c_124 => ?_)
        · exact absurd c_124 (by decide)
        · refine rn_iconst (v := nI 4) dX8_line_127 (by decide) ?_
          refine rn_goto (tgt := 132) dX8_line_128 (by decide) ?_
          refine rn_icmp_ltN (tgt := 139) dX8_line_132 (by decide) (by omega) (by omega) (fun c_132 => ?_) (fun c_132 => ?_)
          · refine rn_iconst (v := nI 0) dX8_line_139 (by decide) ?_
            refine rn_iadd dX8_line_140 ?_
            refine rn_top (nI_add _ _) ?_
            refine rn_istore_n (ls' := [some (.ref 44), some (.int l), some (.int (nI 2)), some (.int (nI ((sumN (fun x => sumN (fun y => (if 4 ≤ c4 w h M l (2 * w * (2 * y) + 2 * x) then 1 else 0)) h) a + sumN (fun y => (if 4 ≤ c4 w h M l (2 * w * (2 * y) + 2 * a) then 1 else 0)) b) + 0))), some (.int (nI a)), some (.int (nI b))]) dX8_line_141 rfl (by decide) rfl rfl ?_
            refine rn_iinc (v := nI (b + 1)) (ls' := [some (.ref 44), some (.int l), some (.int (nI 2)), some (.int (nI ((sumN (fun x => sumN (fun y => (if 4 ≤ c4 w h M l (2 * w * (2 * y) + 2 * x) then 1 else 0)) h) a + sumN (fun y => (if 4 ≤ c4 w h M l (2 * w * (2 * y) + 2 * a) then 1 else 0)) b) + 0))), some (.int (nI a)), some (.int (nI (b + 1)))]) dX8_line_142 rfl (nI_add _ 1) (by decide) rfl rfl ?_
            refine rn_goto (tgt := 101) dX8_line_145 (by decide) ?_
            have ih1 := ih c_109
            simp only [sumN] at ih1
            rw [if_neg (show ¬ 4 ≤ c4 w h M l (2 * w * (2 * b) + 2 * a) by omega)] at ih1
            exact ih1
          · refine rn_iconst (v := nI 1) dX8_line_135 (by decide) ?_
            refine rn_goto (tgt := 140) dX8_line_136 (by decide) ?_
            refine rn_iadd dX8_line_140 ?_
            refine rn_top (nI_add _ _) ?_
            refine rn_istore_n (ls' := [some (.ref 44), some (.int l), some (.int (nI 2)), some (.int (nI ((sumN (fun x => sumN (fun y => (if 4 ≤ c4 w h M l (2 * w * (2 * y) + 2 * x) then 1 else 0)) h) a + sumN (fun y => (if 4 ≤ c4 w h M l (2 * w * (2 * y) + 2 * a) then 1 else 0)) b) + 1))), some (.int (nI a)), some (.int (nI b))]) dX8_line_141 rfl (by decide) rfl rfl ?_
            refine rn_iinc (v := nI (b + 1)) (ls' := [some (.ref 44), some (.int l), some (.int (nI 2)), some (.int (nI ((sumN (fun x => sumN (fun y => (if 4 ≤ c4 w h M l (2 * w * (2 * y) + 2 * x) then 1 else 0)) h) a + sumN (fun y => (if 4 ≤ c4 w h M l (2 * w * (2 * y) + 2 * a) then 1 else 0)) b) + 1))), some (.int (nI a)), some (.int (nI (b + 1)))]) dX8_line_142 rfl (nI_add _ 1) (by decide) rfl rfl ?_
            refine rn_goto (tgt := 101) dX8_line_145 (by decide) ?_
            have ih1 := ih c_109
            simp only [sumN] at ih1
            rw [if_pos (show 4 ≤ c4 w h M l (2 * w * (2 * b) + 2 * a) by omega)] at ih1
            exact ih1
    refine rn_iload dX8_line_87 rfl ?_
    refine rn_aload_n dX8_line_89 rfl rfl ?_
    refine rn_getR (r := 45) dX8_line_90 fd_8_7 (sk_l hs 44 (by decide)) (sk_k44 hs) rfl (sk_r44_0 hs) ?_
    refine rn_iconst (v := nI 0) dX8_line_93 (by decide) ?_
    refine rn_ialoadN dX8_line_94 (sk_l hs 45 (by decide)) (sk_k45 hs) (by omega) (by omega) ?_
    refine rn_top (y := nI w) (hG.1) ?_
    refine rn_icmp_geN (tgt := 154) dX8_line_95 (by decide) (by omega) (by omega) (fun c_95 => ?_) (fun c_95 => ?_)
    · refine rn_iload_n dX8_line_154 rfl rfl ?_
      refine rn_ireturn dX8_line_155 rfl (vp_nar_int _) ?_
      obtain rfl : a = w := by omega
      exact ⟨by rw [dsum_swap], rfl, hKM⟩
    · refine rn_iconst (v := nI 0) dX8_line_98 (by decide) ?_
      refine rn_istore (ls' := [some (.ref 44), some (.int l), some (.int (nI 2)), some (.int (nI (sumN (fun x => sumN (fun y => (if 4 ≤ c4 w h M l (2 * w * (2 * y) + 2 * x) then 1 else 0)) h) a))), some (.int (nI a)), some (.int (nI 0))]) dX8_line_99 (by decide) rfl rfl ?_
      exact LB c_95 0 (by omega)
  refine rn_iconst (v := nI 0) dX8_line_84 (by decide) ?_
  refine rn_istore (ls' := [some (.ref 44), some (.int l), some (.int (nI 2)), some (.int (nI 0)), some (.int (nI 0)), none]) dX8_line_85 (by decide) rfl rfl ?_
  exact LA 0 (by omega)
set_option maxHeartbeats 1000000 in
set_option maxRecDepth 100000 in
theorem l_X8_line3 {S : am_S} (hs : sk S) {I I1 : am_I} {w h : Nat} {M : Nat → Nat → Nat} (w1 : 1 ≤ w) (w8 : w ≤ 8) (h1 : 1 ≤ h) (h8 : h ≤ 8) (hok : okM w h M) (hG : isGr I1 0 w h M) (hLX : LX w h M I1 49 50 51 52) (hKM : KM I I1) (l : Int32) : am_Rn 4 Y_X8_line (0, 0) 84 [some (.ref 44), some (.int l), some (.int (nI 3)), some (.int (nI 0)), none, none] [] S I1 (fun r S' I' => r = some (.int (nI (dsum w h M l 1))) ∧ S' = S ∧ KM I I') := by
  have h256 := sq_bound w8 h8
  have LA : ∀ a, a ≤ w → am_Rn 4 Y_X8_line (0, 0) 87 [some (.ref 44), some (.int l), some (.int (nI 3)), some (.int (nI (sumN (fun x => sumN (fun y => (if 1 ≤ c4 w h M l (2 * w * (2 * y) + 2 * x) then 1 else 0)) h) a))), some (.int (nI a)), none] [] S I1 (fun r S' I' => r = some (.int (nI (dsum w h M l 1))) ∧ S' = S ∧ KM I I') := by
    refine am_loop w (fun a ha ihx => ?_)
    have LB : a < w → ∀ b, b ≤ h → am_Rn 4 Y_X8_line (0, 0) 101 [some (.ref 44), some (.int l), some (.int (nI 3)), some (.int (nI (sumN (fun x => sumN (fun y => (if 1 ≤ c4 w h M l (2 * w * (2 * y) + 2 * x) then 1 else 0)) h) a + sumN (fun y => (if 1 ≤ c4 w h M l (2 * w * (2 * y) + 2 * a) then 1 else 0)) b))), some (.int (nI a)), some (.int (nI b))] [] S I1 (fun r S' I' => r = some (.int (nI (dsum w h M l 1))) ∧ S' = S ∧ KM I I') := by
      intro c_95
      refine am_loop h (fun b hb ih => ?_)
      have K : am_Rn 4 Y_X8_line (0, 0) 148 [some (.ref 44), some (.int l), some (.int (nI 3)), some (.int (nI (sumN (fun x => sumN (fun y => (if 1 ≤ c4 w h M l (2 * w * (2 * y) + 2 * x) then 1 else 0)) h) a + sumN (fun y => (if 1 ≤ c4 w h M l (2 * w * (2 * y) + 2 * a) then 1 else 0)) h))), some (.int (nI a)), none] [] S I1 (fun r S' I' => r = some (.int (nI (dsum w h M l 1))) ∧ S' = S ∧ KM I I') := by
        refine rn_iinc (v := nI (a + 1)) (ls' := [some (.ref 44), some (.int l), some (.int (nI 3)), some (.int (nI (sumN (fun x => sumN (fun y => (if 1 ≤ c4 w h M l (2 * w * (2 * y) + 2 * x) then 1 else 0)) h) a + sumN (fun y => (if 1 ≤ c4 w h M l (2 * w * (2 * y) + 2 * a) then 1 else 0)) h))), some (.int (nI (a + 1))), none]) dX8_line_148 rfl (nI_add _ 1) (by decide) rfl rfl ?_
        refine rn_goto (tgt := 87) dX8_line_151 (by decide) ?_
        exact ihx c_95
      refine rn_iload dX8_line_101 rfl ?_
      refine rn_aload_n dX8_line_103 rfl rfl ?_
      refine rn_getR (r := 46) dX8_line_104 fd_8_13 (sk_l hs 44 (by decide)) (sk_k44 hs) rfl (sk_r44_1 hs) ?_
      refine rn_iconst (v := nI 0) dX8_line_107 (by decide) ?_
      refine rn_ialoadN dX8_line_108 (sk_l hs 46 (by decide)) (sk_k46 hs) (by omega) (by omega) ?_
      refine rn_top (y := nI h) (hG.2.1) ?_
      refine rn_icmp_geN (tgt := 148) dX8_line_109 (by decide) (by omega) (by omega) (fun c_109 => ?_) (fun c_109 => ?_)
      · refine rn_ls (ls' := [some (.ref 44), some (.int l), some (.int (nI 3)), some (.int (nI (sumN (fun x => sumN (fun y => (if 1 ≤ c4 w h M l (2 * w * (2 * y) + 2 * x) then 1 else 0)) h) a + sumN (fun y => (if 1 ≤ c4 w h M l (2 * w * (2 * y) + 2 * a) then 1 else 0)) b))), some (.int (nI a)), none]) rfl (fun k x h => by rcases k with _ | _ | _ | _ | _ | _ | k <;> first | exact h | (simp at h)) ?_
        rw [show b = h by omega]
        exact K
      · refine rn_iload_n dX8_line_112 rfl rfl ?_
        refine rn_aload_n dX8_line_113 rfl rfl ?_
        refine rn_iload_n dX8_line_114 rfl rfl ?_
        refine rn_iload dX8_line_115 rfl ?_
        refine rn_iload dX8_line_117 rfl ?_
        refine rn_callVq (st := [.int (nI (sumN (fun x => sumN (fun y => (if 1 ≤ c4 w h M l (2 * w * (2 * y) + 2 * x) then 1 else 0)) h) a + sumN (fun y => (if 1 ≤ c4 w h M l (2 * w * (2 * y) + 2 * a) then 1 else 0)) b))]) dX8_line_119 cf_8_99 (c_X8_held hs w8 h8 hG.1 hLX l c_95 c_109) (by decide) (sk_l hs 44 (by decide)) (sk_k44 hs) rfl rfl (Nat.le_of_ble_eq_true rfl) ?_
        have hc4 := c4_le w h M l (2 * w * (2 * b) + 2 * a)
        refine rn_iload_n dX8_line_122 rfl rfl ?_
        refine rn_iconst (v := nI 2) dX8_line_123 (by decide) ?_
        refine rn_icmp_neN (tgt := 131) dX8_line_124 (by decide) (by omega) (by omega) (fun c_124 => ?_) (fun c_124 => ?_)
        · refine rn_iconst (v := nI 1) dX8_line_131 (by decide) ?_
          refine rn_icmp_ltN (tgt := 139) dX8_line_132 (by decide) (by omega) (by omega) (fun c_132 => ?_) (fun c_132 => ?_)
          · refine rn_iconst (v := nI 0) dX8_line_139 (by decide) ?_
            refine rn_iadd dX8_line_140 ?_
            refine rn_top (nI_add _ _) ?_
            refine rn_istore_n (ls' := [some (.ref 44), some (.int l), some (.int (nI 3)), some (.int (nI ((sumN (fun x => sumN (fun y => (if 1 ≤ c4 w h M l (2 * w * (2 * y) + 2 * x) then 1 else 0)) h) a + sumN (fun y => (if 1 ≤ c4 w h M l (2 * w * (2 * y) + 2 * a) then 1 else 0)) b) + 0))), some (.int (nI a)), some (.int (nI b))]) dX8_line_141 rfl (by decide) rfl rfl ?_
            refine rn_iinc (v := nI (b + 1)) (ls' := [some (.ref 44), some (.int l), some (.int (nI 3)), some (.int (nI ((sumN (fun x => sumN (fun y => (if 1 ≤ c4 w h M l (2 * w * (2 * y) + 2 * x) then 1 else 0)) h) a + sumN (fun y => (if 1 ≤ c4 w h M l (2 * w * (2 * y) + 2 * a) then 1 else 0)) b) + 0))), some (.int (nI a)), some (.int (nI (b + 1)))]) dX8_line_142 rfl (nI_add _ 1) (by decide) rfl rfl ?_
            refine rn_goto (tgt := 101) dX8_line_145 (by decide) ?_
            have ih1 := ih c_109
            simp only [sumN] at ih1
            rw [if_neg (show ¬ 1 ≤ c4 w h M l (2 * w * (2 * b) + 2 * a) by omega)] at ih1
            exact ih1
          · refine rn_iconst (v := nI 1) dX8_line_135 (by decide) ?_
            refine rn_goto (tgt := 140) dX8_line_136 (by decide) ?_
            refine rn_iadd dX8_line_140 ?_
            refine rn_top (nI_add _ _) ?_
            refine rn_istore_n (ls' := [some (.ref 44), some (.int l), some (.int (nI 3)), some (.int (nI ((sumN (fun x => sumN (fun y => (if 1 ≤ c4 w h M l (2 * w * (2 * y) + 2 * x) then 1 else 0)) h) a + sumN (fun y => (if 1 ≤ c4 w h M l (2 * w * (2 * y) + 2 * a) then 1 else 0)) b) + 1))), some (.int (nI a)), some (.int (nI b))]) dX8_line_141 rfl (by decide) rfl rfl ?_
            refine rn_iinc (v := nI (b + 1)) (ls' := [some (.ref 44), some (.int l), some (.int (nI 3)), some (.int (nI ((sumN (fun x => sumN (fun y => (if 1 ≤ c4 w h M l (2 * w * (2 * y) + 2 * x) then 1 else 0)) h) a + sumN (fun y => (if 1 ≤ c4 w h M l (2 * w * (2 * y) + 2 * a) then 1 else 0)) b) + 1))), some (.int (nI a)), some (.int (nI (b + 1)))]) dX8_line_142 rfl (nI_add _ 1) (by decide) rfl rfl ?_
            refine rn_goto (tgt := 101) dX8_line_145 (by decide) ?_
            have ih1 := ih c_109
            simp only [sumN] at ih1
            rw [if_pos (show 1 ≤ c4 w h M l (2 * w * (2 * b) + 2 * a) by omega)] at ih1
            exact ih1
        · exact absurd c_124 (by decide)
    refine rn_iload dX8_line_87 rfl ?_
    refine rn_aload_n dX8_line_89 rfl rfl ?_
    refine rn_getR (r := 45) dX8_line_90 fd_8_7 (sk_l hs 44 (by decide)) (sk_k44 hs) rfl (sk_r44_0 hs) ?_
    refine rn_iconst (v := nI 0) dX8_line_93 (by decide) ?_
    refine rn_ialoadN dX8_line_94 (sk_l hs 45 (by decide)) (sk_k45 hs) (by omega) (by omega) ?_
    refine rn_top (y := nI w) (hG.1) ?_
    refine rn_icmp_geN (tgt := 154) dX8_line_95 (by decide) (by omega) (by omega) (fun c_95 => ?_) (fun c_95 => ?_)
    · refine rn_iload_n dX8_line_154 rfl rfl ?_
      refine rn_ireturn dX8_line_155 rfl (vp_nar_int _) ?_
      obtain rfl : a = w := by omega
      exact ⟨by rw [dsum_swap], rfl, hKM⟩
    · refine rn_iconst (v := nI 0) dX8_line_98 (by decide) ?_
      refine rn_istore (ls' := [some (.ref 44), some (.int l), some (.int (nI 3)), some (.int (nI (sumN (fun x => sumN (fun y => (if 1 ≤ c4 w h M l (2 * w * (2 * y) + 2 * x) then 1 else 0)) h) a))), some (.int (nI a)), some (.int (nI 0))]) dX8_line_99 (by decide) rfl rfl ?_
      exact LB c_95 0 (by omega)
  refine rn_iconst (v := nI 0) dX8_line_84 (by decide) ?_
  refine rn_istore (ls' := [some (.ref 44), some (.int l), some (.int (nI 3)), some (.int (nI 0)), some (.int (nI 0)), none]) dX8_line_85 (by decide) rfl rfl ?_
  exact LA 0 (by omega)
set_option maxHeartbeats 1000000 in
set_option maxRecDepth 100000 in
theorem l_X8_line4 {S : am_S} (hs : sk S) {I I1 : am_I} {w h : Nat} {M : Nat → Nat → Nat} (w1 : 1 ≤ w) (w8 : w ≤ 8) (h1 : 1 ≤ h) (h8 : h ≤ 8) (hok : okM w h M) (hG : isGr I1 0 w h M) (hLX : LX w h M I1 49 50 51 52) (hKM : KM I I1) (l : Int32) : am_Rn 4 Y_X8_line (0, 0) 156 [some (.ref 44), some (.int l), some (.int (nI 4)), some (.int (nI 0)), none, none] [] S I1 (fun r S' I' => r = some (.int (nI (cntP (f4 w h M l) (pts w h)))) ∧ S' = S ∧ KM I I') := by
  have h256 := sq_bound w8 h8
  have LA : ∀ i, i ≤ 17 → am_Rn 4 Y_X8_line (0, 0) 159 [some (.ref 44), some (.int l), some (.int (nI 4)), some (.int (nI (sumN (fun i => sumN (fun j => (if nInner w h i j = true then f4 w h M l i j else 0)) 17) i))), some (.int (nI i)), none] [] S I1 (fun r S' I' => r = some (.int (nI (cntP (f4 w h M l) (pts w h)))) ∧ S' = S ∧ KM I I') := by
    refine am_loop 17 (fun i hi ihx => ?_)
    have LB : i < 17 → ∀ j, j ≤ 17 → am_Rn 4 Y_X8_line (0, 0) 169 [some (.ref 44), some (.int l), some (.int (nI 4)), some (.int (nI (sumN (fun i => sumN (fun j => (if nInner w h i j = true then f4 w h M l i j else 0)) 17) i + sumN (fun j => (if nInner w h i j = true then f4 w h M l i j else 0)) j))), some (.int (nI i)), some (.int (nI j))] [] S I1 (fun r S' I' => r = some (.int (nI (cntP (f4 w h M l) (pts w h)))) ∧ S' = S ∧ KM I I') := by
      intro c_163
      refine am_loop 17 (fun j hj2 ih => ?_)
      have K : am_Rn 4 Y_X8_line (0, 0) 228 [some (.ref 44), some (.int l), some (.int (nI 4)), some (.int (nI (sumN (fun i => sumN (fun j => (if nInner w h i j = true then f4 w h M l i j else 0)) 17) i + sumN (fun j => (if nInner w h i j = true then f4 w h M l i j else 0)) 17))), some (.int (nI i)), none] [] S I1 (fun r S' I' => r = some (.int (nI (cntP (f4 w h M l) (pts w h)))) ∧ S' = S ∧ KM I I') := by
        refine rn_iinc (v := nI (i + 1)) (ls' := [some (.ref 44), some (.int l), some (.int (nI 4)), some (.int (nI (sumN (fun i => sumN (fun j => (if nInner w h i j = true then f4 w h M l i j else 0)) 17) i + sumN (fun j => (if nInner w h i j = true then f4 w h M l i j else 0)) 17))), some (.int (nI (i + 1))), none]) dX8_line_228 rfl (nI_add _ 1) (by decide) rfl rfl ?_
        refine rn_goto (tgt := 159) dX8_line_231 (by decide) ?_
        exact ihx c_163
      have J220 : j < 17 → am_Rn 4 Y_X8_line (0, 0) 220 [some (.ref 44), some (.int l), some (.int (nI 4)), some (.int (nI (sumN (fun i => sumN (fun j => (if nInner w h i j = true then f4 w h M l i j else 0)) 17) i + sumN (fun j => (if nInner w h i j = true then f4 w h M l i j else 0)) j))), some (.int (nI i)), some (.int (nI j))] [.int (nI (if nInner w h i j = true then f4 w h M l i j else 0)), .int (nI (sumN (fun i => sumN (fun j => (if nInner w h i j = true then f4 w h M l i j else 0)) 17) i + sumN (fun j => (if nInner w h i j = true then f4 w h M l i j else 0)) j))] S I1 (fun r S' I' => r = some (.int (nI (cntP (f4 w h M l) (pts w h)))) ∧ S' = S ∧ KM I I') := by
        intro hj
        refine rn_iadd dX8_line_220 ?_
        refine rn_top (nI_add _ _) ?_
        refine rn_istore_n (ls' := [some (.ref 44), some (.int l), some (.int (nI 4)), some (.int (nI ((sumN (fun i => sumN (fun j => (if nInner w h i j = true then f4 w h M l i j else 0)) 17) i + sumN (fun j => (if nInner w h i j = true then f4 w h M l i j else 0)) j) + (if nInner w h i j = true then f4 w h M l i j else 0)))), some (.int (nI i)), some (.int (nI j))]) dX8_line_221 rfl (by decide) rfl rfl ?_
        refine rn_iinc (v := nI (j + 1)) (ls' := [some (.ref 44), some (.int l), some (.int (nI 4)), some (.int (nI ((sumN (fun i => sumN (fun j => (if nInner w h i j = true then f4 w h M l i j else 0)) 17) i + sumN (fun j => (if nInner w h i j = true then f4 w h M l i j else 0)) j) + (if nInner w h i j = true then f4 w h M l i j else 0)))), some (.int (nI i)), some (.int (nI (j + 1)))]) dX8_line_222 rfl (nI_add _ 1) (by decide) rfl rfl ?_
        refine rn_goto (tgt := 169) dX8_line_225 (by decide) ?_
        have e9 : sumN (fun i => sumN (fun j => (if nInner w h i j = true then f4 w h M l i j else 0)) 17) i + sumN (fun j => (if nInner w h i j = true then f4 w h M l i j else 0)) (j + 1) = sumN (fun i => sumN (fun j => (if nInner w h i j = true then f4 w h M l i j else 0)) 17) i + sumN (fun j => (if nInner w h i j = true then f4 w h M l i j else 0)) j + (if nInner w h i j = true then f4 w h M l i j else 0) := (Nat.add_assoc _ _ _).symm
        rw [← e9]
        exact ih hj
      refine rn_iload dX8_line_169 rfl ?_
      refine rn_bipush (v := nI 17) dX8_line_171 (by decide) ?_
      refine rn_icmp_geN (tgt := 228) dX8_line_173 (by decide) (by omega) (by omega) (fun c_173 => ?_) (fun c_173 => ?_)
      · refine rn_ls (ls' := [some (.ref 44), some (.int l), some (.int (nI 4)), some (.int (nI (sumN (fun i => sumN (fun j => (if nInner w h i j = true then f4 w h M l i j else 0)) 17) i + sumN (fun j => (if nInner w h i j = true then f4 w h M l i j else 0)) j))), some (.int (nI i)), none]) rfl (fun k x h => by rcases k with _ | _ | _ | _ | _ | _ | k <;> first | exact h | (simp at h)) ?_
        rw [show j = 17 by omega]
        exact K
      · refine rn_iload_n dX8_line_176 rfl rfl ?_
        refine rn_aload_n dX8_line_177 rfl rfl ?_
        refine rn_iconst (v := nI 0) dX8_line_178 (by decide) ?_
        refine rn_iload dX8_line_179 rfl ?_
        refine rn_iload dX8_line_181 rfl ?_
        refine rn_callVq (st := [.int (nI (sumN (fun i => sumN (fun j => (if nInner w h i j = true then f4 w h M l i j else 0)) 17) i + sumN (fun j => (if nInner w h i j = true then f4 w h M l i j else 0)) j))]) dX8_line_183 cf_8_74 (c_X8_isInner hs (by decide) hG.1 hG.2.1 w1 w8 h1 h8 _ _) (by decide) (sk_l hs 44 (by decide)) (sk_k44 hs) rfl rfl (Nat.le_of_ble_eq_true rfl) ?_
        refine rn_if_eqB (tgt := 219) dX8_line_186 (by decide) (fun c_186 => ?_) (fun c_186 => ?_)
        · refine rn_iconst (v := nI 0) dX8_line_219 (by decide) ?_
          refine rn_top (y := nI (if nInner w h i j = true then f4 w h M l i j else 0)) (by first | (rw [if_neg (by rw [← pInner_nI (by omega) (by omega), c_186]; decide)]) | (rw [if_pos hin]; unfold f4; rw [if_neg (fun q => by first | exact c_212 ((c4_four w1 hok hin l).mp q).2 | exact c_199 ((c4_four w1 hok hin l).mp q).1)])) ?_
          exact J220 (by omega)
        · have hin : nInner w h i j = true := by rw [← pInner_nI (by omega) (by omega)]; exact c_186
          refine rn_aload_n dX8_line_189 rfl rfl ?_
          refine rn_iload dX8_line_190 rfl ?_
          refine rn_iload dX8_line_192 rfl ?_
          refine rn_iconst (v := nI 0) dX8_line_194 (by decide) ?_
          refine rn_callVq (st := [.int (nI (sumN (fun i => sumN (fun j => (if nInner w h i j = true then f4 w h M l i j else 0)) 17) i + sumN (fun j => (if nInner w h i j = true then f4 w h M l i j else 0)) j))]) dX8_line_195 cf_8_102 (c_X8_strand0 hs w8 h8 hok hG hLX hin) (by decide) (sk_l hs 44 (by decide)) (sk_k44 hs) rfl rfl (Nat.le_of_ble_eq_true rfl) ?_
          refine rn_iload_n dX8_line_198 rfl rfl ?_
          refine rn_icmp_ne (tgt := 219) dX8_line_199 (by decide) (fun c_199 => ?_) (fun c_199 => ?_)
          · refine rn_iconst (v := nI 0) dX8_line_219 (by decide) ?_
            refine rn_top (y := nI (if nInner w h i j = true then f4 w h M l i j else 0)) (by first | (rw [if_neg (by rw [← pInner_nI (by omega) (by omega), c_186]; decide)]) | (rw [if_pos hin]; unfold f4; rw [if_neg (fun q => by first | exact c_212 ((c4_four w1 hok hin l).mp q).2 | exact c_199 ((c4_four w1 hok hin l).mp q).1)])) ?_
            exact J220 (by omega)
          · refine rn_aload_n dX8_line_202 rfl rfl ?_
            refine rn_iload dX8_line_203 rfl ?_
            refine rn_iload dX8_line_205 rfl ?_
            refine rn_iconst (v := nI 1) dX8_line_207 (by decide) ?_
            refine rn_callVq (st := [.int (nI (sumN (fun i => sumN (fun j => (if nInner w h i j = true then f4 w h M l i j else 0)) 17) i + sumN (fun j => (if nInner w h i j = true then f4 w h M l i j else 0)) j))]) dX8_line_208 cf_8_102 (c_X8_strand1 hs w8 h8 hok hG hLX hin) (by decide) (sk_l hs 44 (by decide)) (sk_k44 hs) rfl rfl (Nat.le_of_ble_eq_true rfl) ?_
            refine rn_iload_n dX8_line_211 rfl rfl ?_
            refine rn_icmp_ne (tgt := 219) dX8_line_212 (by decide) (fun c_212 => ?_) (fun c_212 => ?_)
            · refine rn_iconst (v := nI 0) dX8_line_219 (by decide) ?_
              refine rn_top (y := nI (if nInner w h i j = true then f4 w h M l i j else 0)) (by first | (rw [if_neg (by rw [← pInner_nI (by omega) (by omega), c_186]; decide)]) | (rw [if_pos hin]; unfold f4; rw [if_neg (fun q => by first | exact c_212 ((c4_four w1 hok hin l).mp q).2 | exact c_199 ((c4_four w1 hok hin l).mp q).1)])) ?_
              exact J220 (by omega)
            · refine rn_iconst (v := nI 1) dX8_line_215 (by decide) ?_
              refine rn_goto (tgt := 220) dX8_line_216 (by decide) ?_
              refine rn_top (y := nI (if nInner w h i j = true then f4 w h M l i j else 0)) (by rw [if_pos hin]; unfold f4; rw [if_pos ((c4_four w1 hok hin l).mpr ⟨c_199, c_212⟩)]) ?_
              exact J220 (by omega)
    refine rn_iload dX8_line_159 rfl ?_
    refine rn_bipush (v := nI 17) dX8_line_161 (by decide) ?_
    refine rn_icmp_geN (tgt := 234) dX8_line_163 (by decide) (by omega) (by omega) (fun c_163 => ?_) (fun c_163 => ?_)
    · refine rn_iload_n dX8_line_234 rfl rfl ?_
      refine rn_ireturn dX8_line_235 rfl (vp_nar_int _) ?_
      obtain rfl : i = 17 := by omega
      exact ⟨by rw [f4_swap M l w8 h8], rfl, hKM⟩
    · refine rn_iconst (v := nI 0) dX8_line_166 (by decide) ?_
      refine rn_istore (ls' := [some (.ref 44), some (.int l), some (.int (nI 4)), some (.int (nI (sumN (fun i => sumN (fun j => (if nInner w h i j = true then f4 w h M l i j else 0)) 17) i))), some (.int (nI i)), some (.int (nI 0))]) dX8_line_167 (by decide) rfl rfl ?_
      exact LB c_163 0 (by omega)
  refine rn_iconst (v := nI 0) dX8_line_156 (by decide) ?_
  refine rn_istore (ls' := [some (.ref 44), some (.int l), some (.int (nI 4)), some (.int (nI 0)), some (.int (nI 0)), none]) dX8_line_157 (by decide) rfl rfl ?_
  exact LA 0 (by omega)
set_option maxHeartbeats 1000000 in
set_option maxRecDepth 100000 in
theorem c_X8_line {S : am_S} (hs : sk S) {I : am_I} {w h : Nat} {M : Nat → Nat → Nat} (w1 : 1 ≤ w) (w8 : w ≤ 8) (h1 : 1 ≤ h) (h8 : h ≤ 8) (hok : okM w h M) (hG : isGr I 0 w h M) (l t : Int32) : am_Mt 4 Y_X8_line (0, 0) [.ref 44, .int l, .int t] S I (fun r S' I' => r = some (.int (vLine w h M l t)) ∧ S' = S ∧ KM I I') := by
  have h256 := sq_bound w8 h8
  have hcn := lcnt_le (h := h) (M := M) w1
  have hpp := lcnt_pos (M := M) w1 h1
  by_cases hl : isLn w h M l
  · obtain ⟨n, hln, rfl⟩ := isLn_ex hl
    have hbo := lbeg_ok (M := M) w1 hln
    have en : (nI n).toInt.toNat = n := by rw [z_nI (by omega)]; omega
    unfold vLine
    rw [pb_t hl, if_pos rfl, en]
    by_cases q0 : t = nI 0
    · rw [q0, vLineIn_0]
      refine am_mt ⟨by decide +kernel, rfl⟩ (Nat.le_of_ble_eq_true rfl) rfl ?_
      refine rn_aload_n dX8_line_0 rfl rfl ?_
      refine rn_callV0 (st := []) dX8_line_1 cf_8_92 (c_X8_walkAll hs w1 w8 h1 h8 hok hG) (by decide) (sk_l hs 44 (by decide)) (sk_k44 hs) rfl rfl (Nat.le_of_ble_eq_true rfl) (fun r1 S1 I1 hq => ?_)
      obtain ⟨rfl, rfl, hF, hE⟩ := hq
      have hLX := LX_of w1 hF.1 hE
      have hKM := FB_km hF
      have hn1 : I1 44 4 = nI (lcnt w h M) := hF.2.1
      refine rn_iload_n dX8_line_4 rfl rfl ?_
      refine rn_iconst (v := nI 0) dX8_line_5 (by decide) ?_
      refine rn_aload_n dX8_line_6 rfl rfl ?_
      refine rn_getI dX8_line_7 fd_8_85 (sk_l hs 44 (by decide)) (sk_k44 hs) rfl ?_
      refine rn_top (y := nI (lcnt w h M)) (hn1) ?_
      refine rn_iconst (v := nI 1) dX8_line_10 (by decide) ?_
      refine rn_isub dX8_line_11 ?_
      refine rn_top (pk_sub (by omega)) ?_
      refine rn_callSq (st := []) dX8_line_12 cf_8_70 (c_X8_isIn _ I1 _ _ _) (by decide) rfl rfl (Nat.le_of_ble_eq_true rfl) ?_
      refine rn_if_neB (tgt := 20) dX8_line_15 (by decide) (fun c_15 => ?_) (fun c_15 => ?_)
      · refine rn_iconst (v := nI 0) dX8_line_20 (by decide) ?_
        refine rn_istore_n (ls' := [some (.ref 44), some (.int (nI n)), some (.int (nI 0)), some (.int (nI 0)), none, none]) dX8_line_21 rfl (by decide) rfl rfl ?_
        refine rn_iload_n dX8_line_22 rfl rfl ?_
        refine rn_tableIn (off := 33) (tgt := 56) dX8_line_23 (by decide) (by decide) (by decide) (by decide) ?_
        refine rn_aload_n dX8_line_56 rfl rfl ?_
        refine rn_getR (r := 52) dX8_line_57 fd_8_33 (sk_l hs 44 (by decide)) (sk_k44 hs) rfl (sk_r44_8 hs) ?_
        refine rn_iload_n dX8_line_60 rfl rfl ?_
        refine rn_iconst (v := nI 1) dX8_line_61 (by decide) ?_
        refine rn_iadd dX8_line_62 ?_
        refine rn_top (nI_add _ _) ?_
        refine rn_ialoadN dX8_line_63 (sk_l hs 52 (by decide)) (sk_k52 hs) (by omega) (by omega) ?_
        refine rn_top (y := nI (lbeg w h M (n + 1))) (hLX.2.2 _ (by omega)) ?_
        refine rn_aload_n dX8_line_64 rfl rfl ?_
        refine rn_getR (r := 52) dX8_line_65 fd_8_33 (sk_l hs 44 (by decide)) (sk_k44 hs) rfl (sk_r44_8 hs) ?_
        refine rn_iload_n dX8_line_68 rfl rfl ?_
        refine rn_ialoadN dX8_line_69 (sk_l hs 52 (by decide)) (sk_k52 hs) (by omega) (by omega) ?_
        refine rn_top (y := nI (lbeg w h M n)) (hLX.2.2 _ (by omega)) ?_
        refine rn_isub dX8_line_70 ?_
        refine rn_top (pk_sub (by omega)) ?_
        refine rn_ireturn dX8_line_71 rfl (vp_nar_int _) ?_
        exact ⟨rfl, rfl, hKM⟩
      · exact absurd ((isLn_dec w1 w8 h1 h8 _).mpr hl) (by rw [c_15]; decide)
    by_cases q1 : t = nI 1
    · rw [q1, vLineIn_1]
      refine am_mt ⟨by decide +kernel, rfl⟩ (Nat.le_of_ble_eq_true rfl) rfl ?_
      refine rn_aload_n dX8_line_0 rfl rfl ?_
      refine rn_callV0 (st := []) dX8_line_1 cf_8_92 (c_X8_walkAll hs w1 w8 h1 h8 hok hG) (by decide) (sk_l hs 44 (by decide)) (sk_k44 hs) rfl rfl (Nat.le_of_ble_eq_true rfl) (fun r1 S1 I1 hq => ?_)
      obtain ⟨rfl, rfl, hF, hE⟩ := hq
      have hLX := LX_of w1 hF.1 hE
      have hKM := FB_km hF
      have hn1 : I1 44 4 = nI (lcnt w h M) := hF.2.1
      refine rn_iload_n dX8_line_4 rfl rfl ?_
      refine rn_iconst (v := nI 0) dX8_line_5 (by decide) ?_
      refine rn_aload_n dX8_line_6 rfl rfl ?_
      refine rn_getI dX8_line_7 fd_8_85 (sk_l hs 44 (by decide)) (sk_k44 hs) rfl ?_
      refine rn_top (y := nI (lcnt w h M)) (hn1) ?_
      refine rn_iconst (v := nI 1) dX8_line_10 (by decide) ?_
      refine rn_isub dX8_line_11 ?_
      refine rn_top (pk_sub (by omega)) ?_
      refine rn_callSq (st := []) dX8_line_12 cf_8_70 (c_X8_isIn _ I1 _ _ _) (by decide) rfl rfl (Nat.le_of_ble_eq_true rfl) ?_
      refine rn_if_neB (tgt := 20) dX8_line_15 (by decide) (fun c_15 => ?_) (fun c_15 => ?_)
      · refine rn_iconst (v := nI 0) dX8_line_20 (by decide) ?_
        refine rn_istore_n (ls' := [some (.ref 44), some (.int (nI n)), some (.int (nI 1)), some (.int (nI 0)), none, none]) dX8_line_21 rfl (by decide) rfl rfl ?_
        refine rn_iload_n dX8_line_22 rfl rfl ?_
        refine rn_tableIn (off := 49) (tgt := 72) dX8_line_23 (by decide) (by decide) (by decide) (by decide) ?_
        refine rn_aload_n dX8_line_72 rfl rfl ?_
        refine rn_getR (r := 51) dX8_line_73 fd_8_30 (sk_l hs 44 (by decide)) (sk_k44 hs) rfl (sk_r44_7 hs) ?_
        refine rn_aload_n dX8_line_76 rfl rfl ?_
        refine rn_getR (r := 52) dX8_line_77 fd_8_33 (sk_l hs 44 (by decide)) (sk_k44 hs) rfl (sk_r44_8 hs) ?_
        refine rn_iload_n dX8_line_80 rfl rfl ?_
        refine rn_ialoadN dX8_line_81 (sk_l hs 52 (by decide)) (sk_k52 hs) (by omega) (by omega) ?_
        refine rn_top (y := nI (lbeg w h M n)) (hLX.2.2 _ (by omega)) ?_
        refine rn_ialoadN dX8_line_82 (sk_l hs 51 (by decide)) (sk_k51 hs) (by omega) (by omega) ?_
        refine rn_top (y := nI (lwk w h M (lbeg w h M n))) (hLX.2.1 _ (by omega)) ?_
        refine rn_ireturn dX8_line_83 rfl (vp_nar_int _) ?_
        exact ⟨rfl, rfl, hKM⟩
      · exact absurd ((isLn_dec w1 w8 h1 h8 _).mpr hl) (by rw [c_15]; decide)
    by_cases q2 : t = nI 2
    · rw [q2, vLineIn_2]
      refine am_mt ⟨by decide +kernel, rfl⟩ (Nat.le_of_ble_eq_true rfl) rfl ?_
      refine rn_aload_n dX8_line_0 rfl rfl ?_
      refine rn_callV0 (st := []) dX8_line_1 cf_8_92 (c_X8_walkAll hs w1 w8 h1 h8 hok hG) (by decide) (sk_l hs 44 (by decide)) (sk_k44 hs) rfl rfl (Nat.le_of_ble_eq_true rfl) (fun r1 S1 I1 hq => ?_)
      obtain ⟨rfl, rfl, hF, hE⟩ := hq
      have hLX := LX_of w1 hF.1 hE
      have hKM := FB_km hF
      have hn1 : I1 44 4 = nI (lcnt w h M) := hF.2.1
      refine rn_iload_n dX8_line_4 rfl rfl ?_
      refine rn_iconst (v := nI 0) dX8_line_5 (by decide) ?_
      refine rn_aload_n dX8_line_6 rfl rfl ?_
      refine rn_getI dX8_line_7 fd_8_85 (sk_l hs 44 (by decide)) (sk_k44 hs) rfl ?_
      refine rn_top (y := nI (lcnt w h M)) (hn1) ?_
      refine rn_iconst (v := nI 1) dX8_line_10 (by decide) ?_
      refine rn_isub dX8_line_11 ?_
      refine rn_top (pk_sub (by omega)) ?_
      refine rn_callSq (st := []) dX8_line_12 cf_8_70 (c_X8_isIn _ I1 _ _ _) (by decide) rfl rfl (Nat.le_of_ble_eq_true rfl) ?_
      refine rn_if_neB (tgt := 20) dX8_line_15 (by decide) (fun c_15 => ?_) (fun c_15 => ?_)
      · refine rn_iconst (v := nI 0) dX8_line_20 (by decide) ?_
        refine rn_istore_n (ls' := [some (.ref 44), some (.int (nI n)), some (.int (nI 2)), some (.int (nI 0)), none, none]) dX8_line_21 rfl (by decide) rfl rfl ?_
        refine rn_iload_n dX8_line_22 rfl rfl ?_
        refine rn_tableIn (off := 61) (tgt := 84) dX8_line_23 (by decide) (by decide) (by decide) (by decide) ?_
        exact (l_X8_line2 hs w1 w8 h1 h8 hok (hKM.gr hG) hLX hKM (nI n))
      · exact absurd ((isLn_dec w1 w8 h1 h8 _).mpr hl) (by rw [c_15]; decide)
    by_cases q3 : t = nI 3
    · rw [q3, vLineIn_3]
      refine am_mt ⟨by decide +kernel, rfl⟩ (Nat.le_of_ble_eq_true rfl) rfl ?_
      refine rn_aload_n dX8_line_0 rfl rfl ?_
      refine rn_callV0 (st := []) dX8_line_1 cf_8_92 (c_X8_walkAll hs w1 w8 h1 h8 hok hG) (by decide) (sk_l hs 44 (by decide)) (sk_k44 hs) rfl rfl (Nat.le_of_ble_eq_true rfl) (fun r1 S1 I1 hq => ?_)
      obtain ⟨rfl, rfl, hF, hE⟩ := hq
      have hLX := LX_of w1 hF.1 hE
      have hKM := FB_km hF
      have hn1 : I1 44 4 = nI (lcnt w h M) := hF.2.1
      refine rn_iload_n dX8_line_4 rfl rfl ?_
      refine rn_iconst (v := nI 0) dX8_line_5 (by decide) ?_
      refine rn_aload_n dX8_line_6 rfl rfl ?_
      refine rn_getI dX8_line_7 fd_8_85 (sk_l hs 44 (by decide)) (sk_k44 hs) rfl ?_
      refine rn_top (y := nI (lcnt w h M)) (hn1) ?_
      refine rn_iconst (v := nI 1) dX8_line_10 (by decide) ?_
      refine rn_isub dX8_line_11 ?_
      refine rn_top (pk_sub (by omega)) ?_
      refine rn_callSq (st := []) dX8_line_12 cf_8_70 (c_X8_isIn _ I1 _ _ _) (by decide) rfl rfl (Nat.le_of_ble_eq_true rfl) ?_
      refine rn_if_neB (tgt := 20) dX8_line_15 (by decide) (fun c_15 => ?_) (fun c_15 => ?_)
      · refine rn_iconst (v := nI 0) dX8_line_20 (by decide) ?_
        refine rn_istore_n (ls' := [some (.ref 44), some (.int (nI n)), some (.int (nI 3)), some (.int (nI 0)), none, none]) dX8_line_21 rfl (by decide) rfl rfl ?_
        refine rn_iload_n dX8_line_22 rfl rfl ?_
        refine rn_tableIn (off := 61) (tgt := 84) dX8_line_23 (by decide) (by decide) (by decide) (by decide) ?_
        exact (l_X8_line3 hs w1 w8 h1 h8 hok (hKM.gr hG) hLX hKM (nI n))
      · exact absurd ((isLn_dec w1 w8 h1 h8 _).mpr hl) (by rw [c_15]; decide)
    by_cases q4 : t = nI 4
    · rw [q4, vLineIn_4]
      refine am_mt ⟨by decide +kernel, rfl⟩ (Nat.le_of_ble_eq_true rfl) rfl ?_
      refine rn_aload_n dX8_line_0 rfl rfl ?_
      refine rn_callV0 (st := []) dX8_line_1 cf_8_92 (c_X8_walkAll hs w1 w8 h1 h8 hok hG) (by decide) (sk_l hs 44 (by decide)) (sk_k44 hs) rfl rfl (Nat.le_of_ble_eq_true rfl) (fun r1 S1 I1 hq => ?_)
      obtain ⟨rfl, rfl, hF, hE⟩ := hq
      have hLX := LX_of w1 hF.1 hE
      have hKM := FB_km hF
      have hn1 : I1 44 4 = nI (lcnt w h M) := hF.2.1
      refine rn_iload_n dX8_line_4 rfl rfl ?_
      refine rn_iconst (v := nI 0) dX8_line_5 (by decide) ?_
      refine rn_aload_n dX8_line_6 rfl rfl ?_
      refine rn_getI dX8_line_7 fd_8_85 (sk_l hs 44 (by decide)) (sk_k44 hs) rfl ?_
      refine rn_top (y := nI (lcnt w h M)) (hn1) ?_
      refine rn_iconst (v := nI 1) dX8_line_10 (by decide) ?_
      refine rn_isub dX8_line_11 ?_
      refine rn_top (pk_sub (by omega)) ?_
      refine rn_callSq (st := []) dX8_line_12 cf_8_70 (c_X8_isIn _ I1 _ _ _) (by decide) rfl rfl (Nat.le_of_ble_eq_true rfl) ?_
      refine rn_if_neB (tgt := 20) dX8_line_15 (by decide) (fun c_15 => ?_) (fun c_15 => ?_)
      · refine rn_iconst (v := nI 0) dX8_line_20 (by decide) ?_
        refine rn_istore_n (ls' := [some (.ref 44), some (.int (nI n)), some (.int (nI 4)), some (.int (nI 0)), none, none]) dX8_line_21 rfl (by decide) rfl rfl ?_
        refine rn_iload_n dX8_line_22 rfl rfl ?_
        refine rn_tableIn (off := 133) (tgt := 156) dX8_line_23 (by decide) (by decide) (by decide) (by decide) ?_
        exact (l_X8_line4 hs w1 w8 h1 h8 hok (hKM.gr hG) hLX hKM (nI n))
      · exact absurd ((isLn_dec w1 w8 h1 h8 _).mpr hl) (by rw [c_15]; decide)
    rw [vLineIn_n q0 q1 q2 q3 q4]
    refine am_mt ⟨by decide +kernel, rfl⟩ (Nat.le_of_ble_eq_true rfl) rfl ?_
    refine rn_aload_n dX8_line_0 rfl rfl ?_
    refine rn_callV0 (st := []) dX8_line_1 cf_8_92 (c_X8_walkAll hs w1 w8 h1 h8 hok hG) (by decide) (sk_l hs 44 (by decide)) (sk_k44 hs) rfl rfl (Nat.le_of_ble_eq_true rfl) (fun r1 S1 I1 hq => ?_)
    obtain ⟨rfl, rfl, hF, hE⟩ := hq
    have hLX := LX_of w1 hF.1 hE
    have hKM := FB_km hF
    have hn1 : I1 44 4 = nI (lcnt w h M) := hF.2.1
    refine rn_iload_n dX8_line_4 rfl rfl ?_
    refine rn_iconst (v := nI 0) dX8_line_5 (by decide) ?_
    refine rn_aload_n dX8_line_6 rfl rfl ?_
    refine rn_getI dX8_line_7 fd_8_85 (sk_l hs 44 (by decide)) (sk_k44 hs) rfl ?_
    refine rn_top (y := nI (lcnt w h M)) (hn1) ?_
    refine rn_iconst (v := nI 1) dX8_line_10 (by decide) ?_
    refine rn_isub dX8_line_11 ?_
    refine rn_top (pk_sub (by omega)) ?_
    refine rn_callSq (st := []) dX8_line_12 cf_8_70 (c_X8_isIn _ I1 _ _ _) (by decide) rfl rfl (Nat.le_of_ble_eq_true rfl) ?_
    refine rn_if_neB (tgt := 20) dX8_line_15 (by decide) (fun c_15 => ?_) (fun c_15 => ?_)
    · refine rn_iconst (v := nI 0) dX8_line_20 (by decide) ?_
      refine rn_istore_n (ls' := [some (.ref 44), some (.int (nI n)), some (.int t), some (.int (nI 0)), none, none]) dX8_line_21 rfl (by decide) rfl rfl ?_
      refine rn_iload_n dX8_line_22 rfl rfl ?_
      refine rn_tableOut (tgt := 236) dX8_line_23 (tb_out q0 q1 q2 q3 q4) (by decide) ?_
      refine rn_iconst (v := (-1)) dX8_line_236 (by decide) ?_
      refine rn_ireturn dX8_line_237 rfl (vp_nar_int _) ?_
      exact ⟨rfl, rfl, hKM⟩
    · exact absurd ((isLn_dec w1 w8 h1 h8 _).mpr hl) (by rw [c_15]; decide)
  · unfold vLine
    rw [pb_f hl, if_neg (by decide)]
    refine am_mt ⟨by decide +kernel, rfl⟩ (Nat.le_of_ble_eq_true rfl) rfl ?_
    refine rn_aload_n dX8_line_0 rfl rfl ?_
    refine rn_callV0 (st := []) dX8_line_1 cf_8_92 (c_X8_walkAll hs w1 w8 h1 h8 hok hG) (by decide) (sk_l hs 44 (by decide)) (sk_k44 hs) rfl rfl (Nat.le_of_ble_eq_true rfl) (fun r1 S1 I1 hq => ?_)
    obtain ⟨rfl, rfl, hF, hE⟩ := hq
    have hLX := LX_of w1 hF.1 hE
    have hKM := FB_km hF
    have hn1 : I1 44 4 = nI (lcnt w h M) := hF.2.1
    refine rn_iload_n dX8_line_4 rfl rfl ?_
    refine rn_iconst (v := nI 0) dX8_line_5 (by decide) ?_
    refine rn_aload_n dX8_line_6 rfl rfl ?_
    refine rn_getI dX8_line_7 fd_8_85 (sk_l hs 44 (by decide)) (sk_k44 hs) rfl ?_
    refine rn_top (y := nI (lcnt w h M)) (hn1) ?_
    refine rn_iconst (v := nI 1) dX8_line_10 (by decide) ?_
    refine rn_isub dX8_line_11 ?_
    refine rn_top (pk_sub (by omega)) ?_
    refine rn_callSq (st := []) dX8_line_12 cf_8_70 (c_X8_isIn _ I1 _ _ _) (by decide) rfl rfl (Nat.le_of_ble_eq_true rfl) ?_
    refine rn_if_neB (tgt := 20) dX8_line_15 (by decide) (fun c_15 => ?_) (fun c_15 => ?_)
    · exact absurd ((isLn_dec w1 w8 h1 h8 _).mp c_15) hl
    · refine rn_iconst (v := (-1)) dX8_line_18 (by decide) ?_
      refine rn_ireturn dX8_line_19 rfl (vp_nar_int _) ?_
      exact ⟨rfl, rfl, hKM⟩
