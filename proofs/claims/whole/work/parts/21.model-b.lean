def lgS (f g i0 j0 : Nat) (I : am_I) (p : Nat × Nat) : am_I := if I 47 (289 * f + 17 * p.2 + p.1) = 0 then I else am_up I 47 (289 * g + 17 * (p.2 + j0) + (p.1 + i0)) (b8 (I 47 (289 * f + 17 * p.2 + p.1)))
set_option maxHeartbeats 1000000 in
set_option maxRecDepth 100000 in
theorem c_X8_lay {S : am_S} (hs : sk S) {I : am_I} {f g i0 j0 w h : Nat} (hf : f < 20) (hg : g < 20) (vw : I 45 f = nI w) (vh : I 46 f = nI h) (hfw : 2 * w + i0 ≤ 16) (hfh : 2 * h + j0 ≤ 16) : am_Mt 1 Y_X8_lay (0, 0) [.ref 44, .int (nI f), .int (nI g), .int (nI i0), .int (nI j0)] S I (am_q none S (List.foldl (lgS f g i0 j0) I (rowsG (2 * w) (2 * h) 0))) := by
  have LJ : ∀ j, j ≤ 2 * h + 1 → ∀ I, I 45 f = nI w → I 46 f = nI h → am_Rn 1 Y_X8_lay (0, 0) 3 [some (.ref 44), some (.int (nI f)), some (.int (nI g)), some (.int (nI i0)), some (.int (nI j0)), some (.int (nI j)), none] [] S I (am_q none S (List.foldl (lgS f g i0 j0) I (rowsG (2 * w) (2 * h) j))) := by
    refine am_loop (2 * h + 1) ?_
    intro j hj2 ihj
    have LI : j ≤ 2 * h → ∀ i, ∀ I, I 45 f = nI w → I 46 f = nI h → (i ≤ 2 * w + 1) → am_Rn 1 Y_X8_lay (0, 0) 19 [some (.ref 44), some (.int (nI f)), some (.int (nI g)), some (.int (nI i0)), some (.int (nI j0)), some (.int (nI j)), some (.int (nI i))] [] S I (am_q none S (List.foldl (lgS f g i0 j0) I (colsG (2 * w) j i ++ rowsG (2 * w) (2 * h) (j + 1)))) := by
      intro c_13
      refine am_wf (fun i => 2 * w + 1 - i) ?_
      intro i ihi I vw vh hip
      refine rn_iload dX8_lay_19 rfl ?_
      refine rn_iconst (v := nI 2) dX8_lay_21 (by decide) ?_
      refine rn_aload_n dX8_lay_22 rfl rfl ?_
      refine rn_getR (r := 45) dX8_lay_23 fd_8_7 (sk_l hs 44 (by decide)) (sk_k44 hs) rfl (sk_r44_0 hs) ?_
      refine rn_iload_n dX8_lay_26 rfl rfl ?_
      refine rn_ialoadN dX8_lay_27 (sk_l hs 45 (by decide)) (sk_k45 hs) (by omega) (by omega) ?_
      refine rn_top (y := nI w) (vw) ?_
      refine rn_imul dX8_lay_28 ?_
      refine rn_top (pk_mul _ _) ?_
      refine rn_icmp_gtN (tgt := 85) dX8_lay_29 (by decide) (by omega) (by omega) (fun c_29 => ?_) (fun c_29 => ?_)
      · refine rn_iinc (v := nI (j + 1)) (ls' := [some (.ref 44), some (.int (nI f)), some (.int (nI g)), some (.int (nI i0)), some (.int (nI j0)), some (.int (nI (j + 1))), some (.int (nI i))]) dX8_lay_85 rfl (nI_add _ 1) (by decide) rfl rfl ?_
        refine rn_goto (tgt := 3) dX8_lay_88 (by decide) ?_
        refine rn_ls (ls' := [some (.ref 44), some (.int (nI f)), some (.int (nI g)), some (.int (nI i0)), some (.int (nI j0)), some (.int (nI (j + 1))), none]) rfl (fun k x h => by rcases k with _ | _ | _ | _ | _ | _ | _ | k <;> first | exact h | (simp at h)) ?_
        rw [colsG_n c_29, List.nil_append]
        exact ihj (by omega) I vw vh
      · refine rn_aload_n dX8_lay_32 rfl rfl ?_
        refine rn_getR (r := 47) dX8_lay_33 fd_8_16 (sk_l hs 44 (by decide)) (sk_k44 hs) rfl (sk_r44_2 hs) ?_
        refine rn_iload_n dX8_lay_36 rfl rfl ?_
        refine rn_iload dX8_lay_37 rfl ?_
        refine rn_iload dX8_lay_39 rfl ?_
        refine rn_callSq (st := [.ref 47]) dX8_lay_41 cf_8_77 (c_X8_cell S I _ _ _) (by decide) rfl rfl (Nat.le_of_ble_eq_true rfl) ?_
        refine rn_baloadN dX8_lay_44 (sk_l hs 47 (by decide)) (sk_k47 hs) (by decide) (by omega) (by omega) ?_
        refine rn_if_eq (tgt := 79) dX8_lay_45 (by decide) (fun c_45 => ?_) (fun c_45 => ?_)
        · refine rn_iinc (v := nI (i + 1)) (ls' := [some (.ref 44), some (.int (nI f)), some (.int (nI g)), some (.int (nI i0)), some (.int (nI j0)), some (.int (nI j)), some (.int (nI (i + 1)))]) dX8_lay_79 rfl (nI_add _ 1) (by decide) rfl rfl ?_
          refine rn_goto (tgt := 19) dX8_lay_82 (by decide) ?_
          refine rn_ls (ls' := [some (.ref 44), some (.int (nI f)), some (.int (nI g)), some (.int (nI i0)), some (.int (nI j0)), some (.int (nI j)), some (.int (nI (i + 1)))]) rfl (fun k x h => by rcases k with _ | _ | _ | _ | _ | _ | _ | k <;> first | exact h | (simp at h)) ?_
          rw [colsG_c c_29, List.cons_append, List.foldl_cons, show (lgS f g i0 j0) I (i, j) = I from if_pos c_45]
          exact ihi (i + 1) (by show 2 * w + 1 - (i + 1) < 2 * w + 1 - i; omega) _ vw vh (by omega)
        · refine rn_aload_n dX8_lay_48 rfl rfl ?_
          refine rn_getR (r := 47) dX8_lay_49 fd_8_16 (sk_l hs 44 (by decide)) (sk_k44 hs) rfl (sk_r44_2 hs) ?_
          refine rn_iload_n dX8_lay_52 rfl rfl ?_
          refine rn_iload dX8_lay_53 rfl ?_
          refine rn_iload_n dX8_lay_55 rfl rfl ?_
          refine rn_iadd dX8_lay_56 ?_
          refine rn_top (nI_add _ _) ?_
          refine rn_iload dX8_lay_57 rfl ?_
          refine rn_iload dX8_lay_59 rfl ?_
          refine rn_iadd dX8_lay_61 ?_
          refine rn_top (nI_add _ _) ?_
          refine rn_callSq (st := [.ref 47]) dX8_lay_62 cf_8_77 (c_X8_cell S I _ _ _) (by decide) rfl rfl (Nat.le_of_ble_eq_true rfl) ?_
          refine rn_aload_n dX8_lay_65 rfl rfl ?_
          refine rn_getR (r := 47) dX8_lay_66 fd_8_16 (sk_l hs 44 (by decide)) (sk_k44 hs) rfl (sk_r44_2 hs) ?_
          refine rn_iload_n dX8_lay_69 rfl rfl ?_
          refine rn_iload dX8_lay_70 rfl ?_
          refine rn_iload dX8_lay_72 rfl ?_
          refine rn_callSq (st := [.ref 47, .int (nI (289 * g + 17 * (j + j0) + (i + i0))), .ref 47]) dX8_lay_74 cf_8_77 (c_X8_cell S I _ _ _) (by decide) rfl rfl (Nat.le_of_ble_eq_true rfl) ?_
          refine rn_baloadN dX8_lay_77 (sk_l hs 47 (by decide)) (sk_k47 hs) (by decide) (by omega) (by omega) ?_
          refine rn_bastoreN dX8_lay_78 (sk_l hs 47 (by decide)) (sk_k47 hs) (by omega) (by omega) ?_
          refine rn_iinc (v := nI (i + 1)) (ls' := [some (.ref 44), some (.int (nI f)), some (.int (nI g)), some (.int (nI i0)), some (.int (nI j0)), some (.int (nI j)), some (.int (nI (i + 1)))]) dX8_lay_79 rfl (nI_add _ 1) (by decide) rfl rfl ?_
          refine rn_goto (tgt := 19) dX8_lay_82 (by decide) ?_
          refine rn_ls (ls' := [some (.ref 44), some (.int (nI f)), some (.int (nI g)), some (.int (nI i0)), some (.int (nI j0)), some (.int (nI j)), some (.int (nI (i + 1)))]) rfl (fun k x h => by rcases k with _ | _ | _ | _ | _ | _ | _ | k <;> first | exact h | (simp at h)) ?_
          rw [colsG_c c_29, List.cons_append, List.foldl_cons, show (lgS f g i0 j0) I (i, j) = (am_up I 47 (289 * g + 17 * (j + j0) + (i + i0)) ((I 47 (289 * f + 17 * j + i)).toInt8.toInt32)) from if_neg c_45]
          exact ihi (i + 1) (by show 2 * w + 1 - (i + 1) < 2 * w + 1 - i; omega) _ (by rw [am_up_a _ _ (by decide)]; exact vw) (by rw [am_up_a _ _ (by decide)]; exact vh) (by omega)
    intro I vw vh
    refine rn_iload dX8_lay_3 rfl ?_
    refine rn_iconst (v := nI 2) dX8_lay_5 (by decide) ?_
    refine rn_aload_n dX8_lay_6 rfl rfl ?_
    refine rn_getR (r := 46) dX8_lay_7 fd_8_13 (sk_l hs 44 (by decide)) (sk_k44 hs) rfl (sk_r44_1 hs) ?_
    refine rn_iload_n dX8_lay_10 rfl rfl ?_
    refine rn_ialoadN dX8_lay_11 (sk_l hs 46 (by decide)) (sk_k46 hs) (by omega) (by omega) ?_
    refine rn_top (y := nI h) (vh) ?_
    refine rn_imul dX8_lay_12 ?_
    refine rn_top (pk_mul _ _) ?_
    refine rn_icmp_gtN (tgt := 91) dX8_lay_13 (by decide) (by omega) (by omega) (fun c_13 => ?_) (fun c_13 => ?_)
    · refine rn_return dX8_lay_91 rfl ?_
      rw [rowsG_n c_13]
      exact ⟨rfl, rfl, rfl⟩
    · refine rn_iconst (v := nI 0) dX8_lay_16 (by decide) ?_
      refine rn_istore (ls' := [some (.ref 44), some (.int (nI f)), some (.int (nI g)), some (.int (nI i0)), some (.int (nI j0)), some (.int (nI j)), some (.int (nI 0))]) dX8_lay_17 (by decide) rfl rfl ?_
      rw [rowsG_c c_13]
      exact LI c_13 0 I vw vh (by omega)
  refine am_mt ⟨by decide +kernel, rfl⟩ (Nat.le_of_ble_eq_true rfl) rfl ?_
  refine rn_iconst (v := nI 0) dX8_lay_0 (by decide) ?_
  refine rn_istore (ls' := [some (.ref 44), some (.int (nI f)), some (.int (nI g)), some (.int (nI i0)), some (.int (nI j0)), some (.int (nI 0)), none]) dX8_lay_1 (by decide) rfl rfl ?_
  exact LJ 0 (by omega) I vw vh
def tnS (g h : Nat) (I : am_I) (p : Nat × Nat) : am_I := am_up I 47 (289 * g + 17 * p.1 + (2 * h - p.2)) (b8 (b8 (if I 47 (289 * 19 + 17 * p.2 + p.1) = 0 then nI 0 else nI 3 - I 47 (289 * 19 + 17 * p.2 + p.1))))
def fpS (g w : Nat) (I : am_I) (p : Nat × Nat) : am_I := am_up I 47 (289 * g + 17 * p.2 + (2 * w - p.1)) (b8 (I 47 (289 * 19 + 17 * p.2 + p.1)))
theorem gr_cpy_w (I : am_I) (f g w h k : Nat) : gr_cpy I f g w h k 45 g = nI w ∧ gr_cpy I f g w h k 46 g = nI h := by simp [gr_cpy, gr_sz, va_up, am_up]
theorem gr_pln_w (I : am_I) (g w h k : Nat) : gr_pln I g w h k 45 g = nI w ∧ gr_pln I g w h k 46 g = nI h := by simp [gr_pln, gr_sz, va_up, am_up]
theorem gr_pln_o (I : am_I) {g w h k f : Nat} (hf : f ≠ g) : gr_pln I g w h k 45 f = I 45 f ∧ gr_pln I g w h k 46 f = I 46 f := by simp [gr_pln, gr_sz, va_up, am_up, hf]
set_option maxHeartbeats 1000000 in
set_option maxRecDepth 100000 in
theorem c_X8_turn {S : am_S} (hs : sk S) {I : am_I} {g w h : Nat} (hg : g < 19) (hw : I 45 g = nI w) (hh : I 46 g = nI h) (w8 : w ≤ 8) (h8 : h ≤ 8) : am_Mt 1 Y_X8_turn (0, 0) [.ref 44, .int (nI g)] S I (am_q none S (List.foldl (tnS g h) (gr_pln (gr_cpy I g 19 w h 289) g h w 289) (rowsG (2 * w) (2 * h) 0))) := by
  have hg : g < 20 ∧ g ≠ 19 := by omega
  obtain ⟨hg, hg19⟩ := hg
  have LJ : ∀ j, j ≤ 2 * h + 1 → ∀ I, I 45 19 = nI w → I 46 19 = nI h → am_Rn 1 Y_X8_turn (0, 0) 28 [some (.ref 44), some (.int (nI g)), some (.int (nI j)), none, none] [] S I (am_q none S (List.foldl (tnS g h) I (rowsG (2 * w) (2 * h) j))) := by
    refine am_loop (2 * h + 1) ?_
    intro j hj2 ihj
    have LI : j ≤ 2 * h → ∀ i, ∀ I, I 45 19 = nI w → I 46 19 = nI h → (i ≤ 2 * w + 1) → am_Rn 1 Y_X8_turn (0, 0) 43 [some (.ref 44), some (.int (nI g)), some (.int (nI j)), some (.int (nI i)), none] [] S I (am_q none S (List.foldl (tnS g h) I (colsG (2 * w) j i ++ rowsG (2 * w) (2 * h) (j + 1)))) := by
      intro c_38
      refine am_wf (fun i => 2 * w + 1 - i) ?_
      intro i ihi I vw vh hip
      refine rn_iload_n dX8_turn_43 rfl rfl ?_
      refine rn_iconst (v := nI 2) dX8_turn_44 (by decide) ?_
      refine rn_aload_n dX8_turn_45 rfl rfl ?_
      refine rn_getR (r := 45) dX8_turn_46 fd_8_7 (sk_l hs 44 (by decide)) (sk_k44 hs) rfl (sk_r44_0 hs) ?_
      refine rn_bipush (v := nI 19) dX8_turn_49 (by decide) ?_
      refine rn_ialoadN dX8_turn_51 (sk_l hs 45 (by decide)) (sk_k45 hs) (by omega) (by omega) ?_
      refine rn_top (y := nI w) (vw) ?_
      refine rn_imul dX8_turn_52 ?_
      refine rn_top (pk_mul _ _) ?_
      refine rn_icmp_gtN (tgt := 111) dX8_turn_53 (by decide) (by omega) (by omega) (fun c_53 => ?_) (fun c_53 => ?_)
      · refine rn_iinc (v := nI (j + 1)) (ls' := [some (.ref 44), some (.int (nI g)), some (.int (nI (j + 1))), some (.int (nI i)), none]) dX8_turn_111 rfl (nI_add _ 1) (by decide) rfl rfl ?_
        refine rn_goto (tgt := 28) dX8_turn_114 (by decide) ?_
        refine rn_ls (ls' := [some (.ref 44), some (.int (nI g)), some (.int (nI (j + 1))), none, none]) rfl (fun k x h => by rcases k with _ | _ | _ | _ | _ | k <;> first | exact h | (simp at h)) ?_
        rw [colsG_n c_53, List.nil_append]
        exact ihj (by omega) I vw vh
      · refine rn_aload_n dX8_turn_56 rfl rfl ?_
        refine rn_getR (r := 47) dX8_turn_57 fd_8_16 (sk_l hs 44 (by decide)) (sk_k44 hs) rfl (sk_r44_2 hs) ?_
        refine rn_bipush (v := nI 19) dX8_turn_60 (by decide) ?_
        refine rn_iload_n dX8_turn_62 rfl rfl ?_
        refine rn_iload_n dX8_turn_63 rfl rfl ?_
        refine rn_callSq (st := [.ref 47]) dX8_turn_64 cf_8_77 (c_X8_cell S I _ _ _) (by decide) rfl rfl (Nat.le_of_ble_eq_true rfl) ?_
        refine rn_baloadN dX8_turn_67 (sk_l hs 47 (by decide)) (sk_k47 hs) (by decide) (by omega) (by omega) ?_
        refine rn_istore (ls' := [some (.ref 44), some (.int (nI g)), some (.int (nI j)), some (.int (nI i)), some (.int (I 47 (289 * 19 + 17 * j + i)))]) dX8_turn_68 (by decide) rfl rfl ?_
        refine rn_aload_n dX8_turn_70 rfl rfl ?_
        refine rn_getR (r := 47) dX8_turn_71 fd_8_16 (sk_l hs 44 (by decide)) (sk_k44 hs) rfl (sk_r44_2 hs) ?_
        refine rn_iload_n dX8_turn_74 rfl rfl ?_
        refine rn_iconst (v := nI 2) dX8_turn_75 (by decide) ?_
        refine rn_aload_n dX8_turn_76 rfl rfl ?_
        refine rn_getR (r := 46) dX8_turn_77 fd_8_13 (sk_l hs 44 (by decide)) (sk_k44 hs) rfl (sk_r44_1 hs) ?_
        refine rn_bipush (v := nI 19) dX8_turn_80 (by decide) ?_
        refine rn_ialoadN dX8_turn_82 (sk_l hs 46 (by decide)) (sk_k46 hs) (by omega) (by omega) ?_
        refine rn_top (y := nI h) (vh) ?_
        refine rn_imul dX8_turn_83 ?_
        refine rn_top (pk_mul _ _) ?_
        refine rn_iload_n dX8_turn_84 rfl rfl ?_
        refine rn_isub dX8_turn_85 ?_
        refine rn_top (pk_sub (by omega)) ?_
        refine rn_iload_n dX8_turn_86 rfl rfl ?_
        refine rn_callSq (st := [.ref 47]) dX8_turn_87 cf_8_77 (c_X8_cell S I _ _ _) (by decide) rfl rfl (Nat.le_of_ble_eq_true rfl) ?_
        refine rn_iload dX8_turn_90 rfl ?_
        refine rn_if_ne (tgt := 99) dX8_turn_92 (by decide) (fun c_92 => ?_) (fun c_92 => ?_)
        · refine rn_iconst (v := nI 3) dX8_turn_99 (by decide) ?_
          refine rn_iload dX8_turn_100 rfl ?_
          refine rn_isub dX8_turn_102 ?_
          refine rn_i2b dX8_turn_103 ?_
          refine rn_bastoreN dX8_turn_104 (sk_l hs 47 (by decide)) (sk_k47 hs) (by omega) (by omega) ?_
          refine rn_iinc (v := nI (i + 1)) (ls' := [some (.ref 44), some (.int (nI g)), some (.int (nI j)), some (.int (nI (i + 1))), some (.int (I 47 (289 * 19 + 17 * j + i)))]) dX8_turn_105 rfl (nI_add _ 1) (by decide) rfl rfl ?_
          refine rn_goto (tgt := 43) dX8_turn_108 (by decide) ?_
          refine rn_ls (ls' := [some (.ref 44), some (.int (nI g)), some (.int (nI j)), some (.int (nI (i + 1))), none]) rfl (fun k x h => by rcases k with _ | _ | _ | _ | _ | k <;> first | exact h | (simp at h)) ?_
          rw [colsG_c c_53, List.cons_append, List.foldl_cons, show (tnS g h) I (i, j) = (am_up I 47 (289 * g + 17 * i + ((2 * h) - j)) ((((nI 3) - (I 47 (289 * 19 + 17 * j + i))).toInt8.toInt32).toInt8.toInt32)) from (by first | (simp only [tnS, b8, if_pos c_92]; done) | (simp only [tnS, b8, if_neg c_92]; done))]
          exact ihi (i + 1) (by show 2 * w + 1 - (i + 1) < 2 * w + 1 - i; omega) _ (by rw [am_up_a _ _ (by decide)]; exact vw) (by rw [am_up_a _ _ (by decide)]; exact vh) (by omega)
        · refine rn_iconst (v := nI 0) dX8_turn_95 (by decide) ?_
          refine rn_goto (tgt := 103) dX8_turn_96 (by decide) ?_
          refine rn_i2b dX8_turn_103 ?_
          refine rn_bastoreN dX8_turn_104 (sk_l hs 47 (by decide)) (sk_k47 hs) (by omega) (by omega) ?_
          refine rn_iinc (v := nI (i + 1)) (ls' := [some (.ref 44), some (.int (nI g)), some (.int (nI j)), some (.int (nI (i + 1))), some (.int (I 47 (289 * 19 + 17 * j + i)))]) dX8_turn_105 rfl (nI_add _ 1) (by decide) rfl rfl ?_
          refine rn_goto (tgt := 43) dX8_turn_108 (by decide) ?_
          refine rn_ls (ls' := [some (.ref 44), some (.int (nI g)), some (.int (nI j)), some (.int (nI (i + 1))), none]) rfl (fun k x h => by rcases k with _ | _ | _ | _ | _ | k <;> first | exact h | (simp at h)) ?_
          rw [colsG_c c_53, List.cons_append, List.foldl_cons, show (tnS g h) I (i, j) = (am_up I 47 (289 * g + 17 * i + ((2 * h) - j)) (((nI 0).toInt8.toInt32).toInt8.toInt32)) from (by first | (simp only [tnS, b8, if_pos c_92]; done) | (simp only [tnS, b8, if_neg c_92]; done))]
          exact ihi (i + 1) (by show 2 * w + 1 - (i + 1) < 2 * w + 1 - i; omega) _ (by rw [am_up_a _ _ (by decide)]; exact vw) (by rw [am_up_a _ _ (by decide)]; exact vh) (by omega)
    intro I vw vh
    refine rn_iload_n dX8_turn_28 rfl rfl ?_
    refine rn_iconst (v := nI 2) dX8_turn_29 (by decide) ?_
    refine rn_aload_n dX8_turn_30 rfl rfl ?_
    refine rn_getR (r := 46) dX8_turn_31 fd_8_13 (sk_l hs 44 (by decide)) (sk_k44 hs) rfl (sk_r44_1 hs) ?_
    refine rn_bipush (v := nI 19) dX8_turn_34 (by decide) ?_
    refine rn_ialoadN dX8_turn_36 (sk_l hs 46 (by decide)) (sk_k46 hs) (by omega) (by omega) ?_
    refine rn_top (y := nI h) (vh) ?_
    refine rn_imul dX8_turn_37 ?_
    refine rn_top (pk_mul _ _) ?_
    refine rn_icmp_gtN (tgt := 117) dX8_turn_38 (by decide) (by omega) (by omega) (fun c_38 => ?_) (fun c_38 => ?_)
    · refine rn_return dX8_turn_117 rfl ?_
      rw [rowsG_n c_38]
      exact ⟨rfl, rfl, rfl⟩
    · refine rn_iconst (v := nI 0) dX8_turn_41 (by decide) ?_
      refine rn_istore_n (ls' := [some (.ref 44), some (.int (nI g)), some (.int (nI j)), some (.int (nI 0)), none]) dX8_turn_42 rfl (by decide) rfl rfl ?_
      rw [rowsG_c c_38]
      exact LI c_38 0 I vw vh (by omega)
  refine am_mt ⟨by decide +kernel, rfl⟩ (Nat.le_of_ble_eq_true rfl) rfl ?_
  refine rn_aload_n dX8_turn_0 rfl rfl ?_
  refine rn_iload_n dX8_turn_1 rfl rfl ?_
  refine rn_bipush (v := nI 19) dX8_turn_2 (by decide) ?_
  refine rn_callVq (st := []) dX8_turn_4 cf_8_128 (c_X8_copy hs (w := w) (h := h) hg (by decide) (by omega) hw hh) (by decide) (sk_l hs 44 (by decide)) (sk_k44 hs) rfl rfl (Nat.le_of_ble_eq_true rfl) ?_
  refine rn_aload_n dX8_turn_7 rfl rfl ?_
  refine rn_iload_n dX8_turn_8 rfl rfl ?_
  refine rn_aload_n dX8_turn_9 rfl rfl ?_
  refine rn_getR (r := 46) dX8_turn_10 fd_8_13 (sk_l hs 44 (by decide)) (sk_k44 hs) rfl (sk_r44_1 hs) ?_
  refine rn_bipush (v := nI 19) dX8_turn_13 (by decide) ?_
  refine rn_ialoadN dX8_turn_15 (sk_l hs 46 (by decide)) (sk_k46 hs) (by omega) (by omega) ?_
  refine rn_top (y := nI h) ((gr_cpy_w I g 19 w h 289).2) ?_
  refine rn_aload_n dX8_turn_16 rfl rfl ?_
  refine rn_getR (r := 45) dX8_turn_17 fd_8_7 (sk_l hs 44 (by decide)) (sk_k44 hs) rfl (sk_r44_0 hs) ?_
  refine rn_bipush (v := nI 19) dX8_turn_20 (by decide) ?_
  refine rn_ialoadN dX8_turn_22 (sk_l hs 45 (by decide)) (sk_k45 hs) (by omega) (by omega) ?_
  refine rn_top (y := nI w) ((gr_cpy_w I g 19 w h 289).1) ?_
  refine rn_callVq (st := []) dX8_turn_23 cf_8_132 (c_X8_plain hs hg) (by decide) (sk_l hs 44 (by decide)) (sk_k44 hs) rfl rfl (Nat.le_of_ble_eq_true rfl) ?_
  refine rn_iconst (v := nI 0) dX8_turn_26 (by decide) ?_
  refine rn_istore_n (ls' := [some (.ref 44), some (.int (nI g)), some (.int (nI 0)), none, none]) dX8_turn_27 rfl (by decide) rfl rfl ?_
  exact LJ 0 (by omega) _ ((gr_pln_o _ (by omega)).1.trans (gr_cpy_w I g 19 w h 289).1) ((gr_pln_o _ (by omega)).2.trans (gr_cpy_w I g 19 w h 289).2)
set_option maxHeartbeats 1000000 in
set_option maxRecDepth 100000 in
theorem c_X8_flip {S : am_S} (hs : sk S) {I : am_I} {g w h : Nat} (hg : g < 19) (hw : I 45 g = nI w) (hh : I 46 g = nI h) (w8 : w ≤ 8) (h8 : h ≤ 8) : am_Mt 1 Y_X8_flip (0, 0) [.ref 44, .int (nI g)] S I (am_q none S (List.foldl (fpS g w) (gr_cpy I g 19 w h 289) (rowsG (2 * w) (2 * h) 0))) := by
  have hg : g < 20 ∧ g ≠ 19 := by omega
  obtain ⟨hg, hg19⟩ := hg
  have LJ : ∀ j, j ≤ 2 * h + 1 → ∀ I, I 45 19 = nI w → I 46 19 = nI h → am_Rn 1 Y_X8_flip (0, 0) 9 [some (.ref 44), some (.int (nI g)), some (.int (nI j)), none] [] S I (am_q none S (List.foldl (fpS g w) I (rowsG (2 * w) (2 * h) j))) := by
    refine am_loop (2 * h + 1) ?_
    intro j hj2 ihj
    have LI : j ≤ 2 * h → ∀ i, ∀ I, I 45 19 = nI w → I 46 19 = nI h → (i ≤ 2 * w + 1) → am_Rn 1 Y_X8_flip (0, 0) 24 [some (.ref 44), some (.int (nI g)), some (.int (nI j)), some (.int (nI i))] [] S I (am_q none S (List.foldl (fpS g w) I (colsG (2 * w) j i ++ rowsG (2 * w) (2 * h) (j + 1)))) := by
      intro c_19
      refine am_wf (fun i => 2 * w + 1 - i) ?_
      intro i ihi I vw vh hip
      refine rn_iload_n dX8_flip_24 rfl rfl ?_
      refine rn_iconst (v := nI 2) dX8_flip_25 (by decide) ?_
      refine rn_aload_n dX8_flip_26 rfl rfl ?_
      refine rn_getR (r := 45) dX8_flip_27 fd_8_7 (sk_l hs 44 (by decide)) (sk_k44 hs) rfl (sk_r44_0 hs) ?_
      refine rn_bipush (v := nI 19) dX8_flip_30 (by decide) ?_
      refine rn_ialoadN dX8_flip_32 (sk_l hs 45 (by decide)) (sk_k45 hs) (by omega) (by omega) ?_
      refine rn_top (y := nI w) (vw) ?_
      refine rn_imul dX8_flip_33 ?_
      refine rn_top (pk_mul _ _) ?_
      refine rn_icmp_gtN (tgt := 76) dX8_flip_34 (by decide) (by omega) (by omega) (fun c_34 => ?_) (fun c_34 => ?_)
      · refine rn_iinc (v := nI (j + 1)) (ls' := [some (.ref 44), some (.int (nI g)), some (.int (nI (j + 1))), some (.int (nI i))]) dX8_flip_76 rfl (nI_add _ 1) (by decide) rfl rfl ?_
        refine rn_goto (tgt := 9) dX8_flip_79 (by decide) ?_
        refine rn_ls (ls' := [some (.ref 44), some (.int (nI g)), some (.int (nI (j + 1))), none]) rfl (fun k x h => by rcases k with _ | _ | _ | _ | k <;> first | exact h | (simp at h)) ?_
        rw [colsG_n c_34, List.nil_append]
        exact ihj (by omega) I vw vh
      · refine rn_aload_n dX8_flip_37 rfl rfl ?_
        refine rn_getR (r := 47) dX8_flip_38 fd_8_16 (sk_l hs 44 (by decide)) (sk_k44 hs) rfl (sk_r44_2 hs) ?_
        refine rn_iload_n dX8_flip_41 rfl rfl ?_
        refine rn_iconst (v := nI 2) dX8_flip_42 (by decide) ?_
        refine rn_aload_n dX8_flip_43 rfl rfl ?_
        refine rn_getR (r := 45) dX8_flip_44 fd_8_7 (sk_l hs 44 (by decide)) (sk_k44 hs) rfl (sk_r44_0 hs) ?_
        refine rn_bipush (v := nI 19) dX8_flip_47 (by decide) ?_
        refine rn_ialoadN dX8_flip_49 (sk_l hs 45 (by decide)) (sk_k45 hs) (by omega) (by omega) ?_
        refine rn_top (y := nI w) (vw) ?_
        refine rn_imul dX8_flip_50 ?_
        refine rn_top (pk_mul _ _) ?_
        refine rn_iload_n dX8_flip_51 rfl rfl ?_
        refine rn_isub dX8_flip_52 ?_
        refine rn_top (pk_sub (by omega)) ?_
        refine rn_iload_n dX8_flip_53 rfl rfl ?_
        refine rn_callSq (st := [.ref 47]) dX8_flip_54 cf_8_77 (c_X8_cell S I _ _ _) (by decide) rfl rfl (Nat.le_of_ble_eq_true rfl) ?_
        refine rn_aload_n dX8_flip_57 rfl rfl ?_
        refine rn_getR (r := 47) dX8_flip_58 fd_8_16 (sk_l hs 44 (by decide)) (sk_k44 hs) rfl (sk_r44_2 hs) ?_
        refine rn_bipush (v := nI 19) dX8_flip_61 (by decide) ?_
        refine rn_iload_n dX8_flip_63 rfl rfl ?_
        refine rn_iload_n dX8_flip_64 rfl rfl ?_
        refine rn_callSq (st := [.ref 47, .int (nI (289 * g + 17 * j + ((2 * w) - i))), .ref 47]) dX8_flip_65 cf_8_77 (c_X8_cell S I _ _ _) (by decide) rfl rfl (Nat.le_of_ble_eq_true rfl) ?_
        refine rn_baloadN dX8_flip_68 (sk_l hs 47 (by decide)) (sk_k47 hs) (by decide) (by omega) (by omega) ?_
        refine rn_bastoreN dX8_flip_69 (sk_l hs 47 (by decide)) (sk_k47 hs) (by omega) (by omega) ?_
        refine rn_iinc (v := nI (i + 1)) (ls' := [some (.ref 44), some (.int (nI g)), some (.int (nI j)), some (.int (nI (i + 1)))]) dX8_flip_70 rfl (nI_add _ 1) (by decide) rfl rfl ?_
        refine rn_goto (tgt := 24) dX8_flip_73 (by decide) ?_
        refine rn_ls (ls' := [some (.ref 44), some (.int (nI g)), some (.int (nI j)), some (.int (nI (i + 1)))]) rfl (fun k x h => by rcases k with _ | _ | _ | _ | k <;> first | exact h | (simp at h)) ?_
        rw [colsG_c c_34, List.cons_append, List.foldl_cons, show (fpS g w) I (i, j) = (am_up I 47 (289 * g + 17 * j + ((2 * w) - i)) ((I 47 (289 * 19 + 17 * j + i)).toInt8.toInt32)) from rfl]
        exact ihi (i + 1) (by show 2 * w + 1 - (i + 1) < 2 * w + 1 - i; omega) _ (by rw [am_up_a _ _ (by decide)]; exact vw) (by rw [am_up_a _ _ (by decide)]; exact vh) (by omega)
    intro I vw vh
    refine rn_iload_n dX8_flip_9 rfl rfl ?_
    refine rn_iconst (v := nI 2) dX8_flip_10 (by decide) ?_
    refine rn_aload_n dX8_flip_11 rfl rfl ?_
    refine rn_getR (r := 46) dX8_flip_12 fd_8_13 (sk_l hs 44 (by decide)) (sk_k44 hs) rfl (sk_r44_1 hs) ?_
    refine rn_bipush (v := nI 19) dX8_flip_15 (by decide) ?_
    refine rn_ialoadN dX8_flip_17 (sk_l hs 46 (by decide)) (sk_k46 hs) (by omega) (by omega) ?_
    refine rn_top (y := nI h) (vh) ?_
    refine rn_imul dX8_flip_18 ?_
    refine rn_top (pk_mul _ _) ?_
    refine rn_icmp_gtN (tgt := 82) dX8_flip_19 (by decide) (by omega) (by omega) (fun c_19 => ?_) (fun c_19 => ?_)
    · refine rn_return dX8_flip_82 rfl ?_
      rw [rowsG_n c_19]
      exact ⟨rfl, rfl, rfl⟩
    · refine rn_iconst (v := nI 0) dX8_flip_22 (by decide) ?_
      refine rn_istore_n (ls' := [some (.ref 44), some (.int (nI g)), some (.int (nI j)), some (.int (nI 0))]) dX8_flip_23 rfl (by decide) rfl rfl ?_
      rw [rowsG_c c_19]
      exact LI c_19 0 I vw vh (by omega)
  refine am_mt ⟨by decide +kernel, rfl⟩ (Nat.le_of_ble_eq_true rfl) rfl ?_
  refine rn_aload_n dX8_flip_0 rfl rfl ?_
  refine rn_iload_n dX8_flip_1 rfl rfl ?_
  refine rn_bipush (v := nI 19) dX8_flip_2 (by decide) ?_
  refine rn_callVq (st := []) dX8_flip_4 cf_8_128 (c_X8_copy hs (w := w) (h := h) hg (by decide) (by omega) hw hh) (by decide) (sk_l hs 44 (by decide)) (sk_k44 hs) rfl rfl (Nat.le_of_ble_eq_true rfl) ?_
  refine rn_iconst (v := nI 0) dX8_flip_7 (by decide) ?_
  refine rn_istore_n (ls' := [some (.ref 44), some (.int (nI g)), some (.int (nI 0)), none]) dX8_flip_8 rfl (by decide) rfl rfl ?_
  exact LJ 0 (by omega) _ (gr_cpy_w I g 19 w h 289).1 (gr_cpy_w I g 19 w h 289).2
