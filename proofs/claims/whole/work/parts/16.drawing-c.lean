set_option maxHeartbeats 1000000 in
set_option maxRecDepth 100000 in
theorem c_X0_turnedColumn {S : am_S} {I : am_I} {a q w h : Nat} (hd : am_dr S a q) (hw : I a 0 = nI w) (hh : I a 1 = nI h) {t i j : Nat} (ht : t < 4) (hi : i ≤ 2 * w) (hj : j ≤ 2 * h) : am_Mt 0 Y_X0_turnedColumn (0, 0) [.ref a, .int (nI t), .int (nI i), .int (nI j)] S I (am_q (some (.int (nI (tcol w h t i j)))) S I) := by
  rcases (show t = 0 ∨ t = 1 ∨ t = 2 ∨ t = 3 by omega) with rfl | rfl | rfl | rfl
  · refine am_mt ⟨by decide +kernel, rfl⟩ (Nat.le_of_ble_eq_true rfl) rfl ?_
    refine rn_iload_n dX0_turnedColumn_0 rfl rfl ?_
    refine rn_tableOut (tgt := 48) dX0_turnedColumn_1 (by decide) (by decide) ?_
    refine rn_iload_n dX0_turnedColumn_48 rfl rfl ?_
    refine rn_ireturn dX0_turnedColumn_49 rfl (vp_nar_int _) ?_
    exact ⟨rfl, rfl, rfl⟩
  · refine am_mt ⟨by decide +kernel, rfl⟩ (Nat.le_of_ble_eq_true rfl) rfl ?_
    refine rn_iload_n dX0_turnedColumn_0 rfl rfl ?_
    refine rn_tableIn (off := 27) (tgt := 28) dX0_turnedColumn_1 (by decide) (by decide) (by decide) (by decide) ?_
    refine rn_iconst (v := nI 2) dX0_turnedColumn_28 (by decide) ?_
    refine rn_aload_n dX0_turnedColumn_29 rfl rfl ?_
    refine rn_getI dX0_turnedColumn_30 fd_0_15 hd.1 hd.2.1 rfl ?_
    refine rn_top (y := nI h) (hh) ?_
    refine rn_imul dX0_turnedColumn_33 ?_
    refine rn_top (pk_mul _ _) ?_
    refine rn_iload_n dX0_turnedColumn_34 rfl rfl ?_
    refine rn_isub dX0_turnedColumn_35 ?_
    refine rn_top (pk_sub (by omega)) ?_
    refine rn_ireturn dX0_turnedColumn_36 rfl (vp_nar_int _) ?_
    exact ⟨rfl, rfl, rfl⟩
  · refine am_mt ⟨by decide +kernel, rfl⟩ (Nat.le_of_ble_eq_true rfl) rfl ?_
    refine rn_iload_n dX0_turnedColumn_0 rfl rfl ?_
    refine rn_tableIn (off := 36) (tgt := 37) dX0_turnedColumn_1 (by decide) (by decide) (by decide) (by decide) ?_
    refine rn_iconst (v := nI 2) dX0_turnedColumn_37 (by decide) ?_
    refine rn_aload_n dX0_turnedColumn_38 rfl rfl ?_
    refine rn_getI dX0_turnedColumn_39 fd_0_9 hd.1 hd.2.1 rfl ?_
    refine rn_top (y := nI w) (hw) ?_
    refine rn_imul dX0_turnedColumn_42 ?_
    refine rn_top (pk_mul _ _) ?_
    refine rn_iload_n dX0_turnedColumn_43 rfl rfl ?_
    refine rn_isub dX0_turnedColumn_44 ?_
    refine rn_top (pk_sub (by omega)) ?_
    refine rn_ireturn dX0_turnedColumn_45 rfl (vp_nar_int _) ?_
    exact ⟨rfl, rfl, rfl⟩
  · refine am_mt ⟨by decide +kernel, rfl⟩ (Nat.le_of_ble_eq_true rfl) rfl ?_
    refine rn_iload_n dX0_turnedColumn_0 rfl rfl ?_
    refine rn_tableIn (off := 45) (tgt := 46) dX0_turnedColumn_1 (by decide) (by decide) (by decide) (by decide) ?_
    refine rn_iload_n dX0_turnedColumn_46 rfl rfl ?_
    refine rn_ireturn dX0_turnedColumn_47 rfl (vp_nar_int _) ?_
    exact ⟨rfl, rfl, rfl⟩
set_option maxHeartbeats 1000000 in
set_option maxRecDepth 100000 in
theorem c_X0_turnedRow {S : am_S} {I : am_I} {a q w h : Nat} (hd : am_dr S a q) (hw : I a 0 = nI w) (hh : I a 1 = nI h) {t i j : Nat} (ht : t < 4) (hi : i ≤ 2 * w) (hj : j ≤ 2 * h) : am_Mt 0 Y_X0_turnedRow (0, 0) [.ref a, .int (nI t), .int (nI i), .int (nI j)] S I (am_q (some (.int (nI (trow w h t i j)))) S I) := by
  rcases (show t = 0 ∨ t = 1 ∨ t = 2 ∨ t = 3 by omega) with rfl | rfl | rfl | rfl
  · refine am_mt ⟨by decide +kernel, rfl⟩ (Nat.le_of_ble_eq_true rfl) rfl ?_
    refine rn_iload_n dX0_turnedRow_0 rfl rfl ?_
    refine rn_tableOut (tgt := 48) dX0_turnedRow_1 (by decide) (by decide) ?_
    refine rn_iload_n dX0_turnedRow_48 rfl rfl ?_
    refine rn_ireturn dX0_turnedRow_49 rfl (vp_nar_int _) ?_
    exact ⟨rfl, rfl, rfl⟩
  · refine am_mt ⟨by decide +kernel, rfl⟩ (Nat.le_of_ble_eq_true rfl) rfl ?_
    refine rn_iload_n dX0_turnedRow_0 rfl rfl ?_
    refine rn_tableIn (off := 27) (tgt := 28) dX0_turnedRow_1 (by decide) (by decide) (by decide) (by decide) ?_
    refine rn_iload_n dX0_turnedRow_28 rfl rfl ?_
    refine rn_ireturn dX0_turnedRow_29 rfl (vp_nar_int _) ?_
    exact ⟨rfl, rfl, rfl⟩
  · refine am_mt ⟨by decide +kernel, rfl⟩ (Nat.le_of_ble_eq_true rfl) rfl ?_
    refine rn_iload_n dX0_turnedRow_0 rfl rfl ?_
    refine rn_tableIn (off := 29) (tgt := 30) dX0_turnedRow_1 (by decide) (by decide) (by decide) (by decide) ?_
    refine rn_iconst (v := nI 2) dX0_turnedRow_30 (by decide) ?_
    refine rn_aload_n dX0_turnedRow_31 rfl rfl ?_
    refine rn_getI dX0_turnedRow_32 fd_0_15 hd.1 hd.2.1 rfl ?_
    refine rn_top (y := nI h) (hh) ?_
    refine rn_imul dX0_turnedRow_35 ?_
    refine rn_top (pk_mul _ _) ?_
    refine rn_iload_n dX0_turnedRow_36 rfl rfl ?_
    refine rn_isub dX0_turnedRow_37 ?_
    refine rn_top (pk_sub (by omega)) ?_
    refine rn_ireturn dX0_turnedRow_38 rfl (vp_nar_int _) ?_
    exact ⟨rfl, rfl, rfl⟩
  · refine am_mt ⟨by decide +kernel, rfl⟩ (Nat.le_of_ble_eq_true rfl) rfl ?_
    refine rn_iload_n dX0_turnedRow_0 rfl rfl ?_
    refine rn_tableIn (off := 38) (tgt := 39) dX0_turnedRow_1 (by decide) (by decide) (by decide) (by decide) ?_
    refine rn_iconst (v := nI 2) dX0_turnedRow_39 (by decide) ?_
    refine rn_aload_n dX0_turnedRow_40 rfl rfl ?_
    refine rn_getI dX0_turnedRow_41 fd_0_9 hd.1 hd.2.1 rfl ?_
    refine rn_top (y := nI w) (hw) ?_
    refine rn_imul dX0_turnedRow_44 ?_
    refine rn_top (pk_mul _ _) ?_
    refine rn_iload_n dX0_turnedRow_45 rfl rfl ?_
    refine rn_isub dX0_turnedRow_46 ?_
    refine rn_top (pk_sub (by omega)) ?_
    refine rn_ireturn dX0_turnedRow_47 rfl (vp_nar_int _) ?_
    exact ⟨rfl, rfl, rfl⟩
set_option maxHeartbeats 1000000 in
set_option maxRecDepth 100000 in
theorem c_X0_layMirrors {S : am_S} {a q a0 q0 w h : Nat} (hd : am_dr S a q) (hd0 : am_dr S a0 q0) (hne : a0 ≠ a) (hq : q0 ≠ q) (w1 : 1 ≤ w) (w8 : w ≤ 8) (h1 : 1 ≤ h) (h8 : h ≤ 8) {I : am_I} {ri dj w0 h0 : Nat} (va : I a 0 = nI w0) (vb : I a 1 = nI h0) (vc : I a0 0 = nI w) (vd : I a0 1 = nI h) (w80 : w0 ≤ 8) (h80 : h0 ≤ 8) (hri : ri % 2 = 0) (hdj : dj % 2 = 0) (hfw : 2 * w + ri ≤ 2 * w0) (hfh : 2 * h + dj ≤ 2 * h0) : am_Mt 2 Y_X0_layMirrors (0, 0) [.ref a, .ref a0, .int (nI ri), .int (nI dj)] S I (am_q none S (List.foldl (lyS q q0 ri dj) I (pts w h))) := by
  have hx := hd.ne2 hd0
  have LJ : ∀ j, 1 ≤ j → j ≤ 2 * h → ∀ I, I a 0 = nI w0 → I a 1 = nI h0 → I a0 0 = nI w → I a0 1 = nI h → am_Rn 2 Y_X0_layMirrors (0, 0) 3 [some (.ref a), some (.ref a0), some (.int (nI ri)), some (.int (nI dj)), some (.int (nI j)), none, none] [] S I (am_q none S (List.foldl (lyS q q0 ri dj) I (rowsP w h j))) := by
    intro j hj1 hj2
    revert hj1
    refine am_loop (P := fun j => 1 ≤ j → ∀ I, I a 0 = nI w0 → I a 1 = nI h0 → I a0 0 = nI w → I a0 1 = nI h → am_Rn 2 Y_X0_layMirrors (0, 0) 3 [some (.ref a), some (.ref a0), some (.int (nI ri)), some (.int (nI dj)), some (.int (nI j)), none, none] [] S I (am_q none S (List.foldl (lyS q q0 ri dj) I (rowsP w h j)))) (2 * h) ?_ j hj2
    clear hj2 j
    intro j hj2 ihj0 hj1
    have ihj : j < 2 * h → _ := fun hl => ihj0 hl (by omega)
    have LI : j < 2 * h → ∀ i, ∀ I, I a 0 = nI w0 → I a 1 = nI h0 → I a0 0 = nI w → I a0 1 = nI h → (1 ≤ i ∧ (i + j) % 2 = 1 ∧ i ≤ 2 * w + 1) → am_Rn 2 Y_X0_layMirrors (0, 0) 22 [some (.ref a), some (.ref a0), some (.int (nI ri)), some (.int (nI dj)), some (.int (nI j)), some (.int (nI i)), none] [] S I (am_q none S (List.foldl (lyS q q0 ri dj) I (rowP w j i ++ rowsP w h (j + 1)))) := by
      intro c_11
      refine am_wf (fun i => 2 * w - i) ?_
      intro i ihi I va vb vc vd hip
      refine rn_iload dX0_layMirrors_22 rfl ?_
      refine rn_iconst (v := nI 2) dX0_layMirrors_24 (by decide) ?_
      refine rn_aload_n dX0_layMirrors_25 rfl rfl ?_
      refine rn_getI dX0_layMirrors_26 fd_0_9 hd0.1 hd0.2.1 rfl ?_
      refine rn_top (y := nI w) (vc) ?_
      refine rn_imul dX0_layMirrors_29 ?_
      refine rn_top (pk_mul _ _) ?_
      refine rn_icmp_geN (tgt := 68) dX0_layMirrors_30 (by decide) (by omega) (by omega) (fun c_30 => ?_) (fun c_30 => ?_)
      · refine rn_iinc (v := nI (j + 1)) (ls' := [some (.ref a), some (.ref a0), some (.int (nI ri)), some (.int (nI dj)), some (.int (nI (j + 1))), some (.int (nI i)), none]) dX0_layMirrors_68 rfl (nI_add _ 1) (by decide) rfl rfl ?_
        refine rn_goto (tgt := 3) dX0_layMirrors_71 (by decide) ?_
        refine rn_ls (ls' := [some (.ref a), some (.ref a0), some (.int (nI ri)), some (.int (nI dj)), some (.int (nI (j + 1))), none, none]) rfl (fun k x h => by rcases k with _ | _ | _ | _ | _ | _ | _ | k <;> first | exact h | (simp at h)) ?_
        rw [rowP_n c_30, List.nil_append]
        exact ihj c_11 I va vb vc vd
      · refine rn_aload_n dX0_layMirrors_33 rfl rfl ?_
        refine rn_iload dX0_layMirrors_34 rfl ?_
        refine rn_iload dX0_layMirrors_36 rfl ?_
        refine rn_callVq (st := []) dX0_layMirrors_38 cf_0_54 (c_X0_mirrorAt hd0 vc vd w8 h8 (decide_eq_true (by omega))) (by decide) hd0.1 hd0.2.1 rfl rfl (Nat.le_of_ble_eq_true rfl) ?_
        refine rn_istore (ls' := [some (.ref a), some (.ref a0), some (.int (nI ri)), some (.int (nI dj)), some (.int (nI j)), some (.int (nI i)), some (.int (I q0 (8 * j + i / 2)))]) dX0_layMirrors_41 (by decide) rfl rfl ?_
        refine rn_iload dX0_layMirrors_43 rfl ?_
        refine rn_if_eq (tgt := 62) dX0_layMirrors_45 (by decide) (fun c_45 => ?_) (fun c_45 => ?_)
        · refine rn_iinc (v := nI (i + 2)) (ls' := [some (.ref a), some (.ref a0), some (.int (nI ri)), some (.int (nI dj)), some (.int (nI j)), some (.int (nI (i + 2))), some (.int (I q0 (8 * j + i / 2)))]) dX0_layMirrors_62 rfl (nI_add _ 2) (by decide) rfl rfl ?_
          refine rn_goto (tgt := 22) dX0_layMirrors_65 (by decide) ?_
          refine rn_ls (ls' := [some (.ref a), some (.ref a0), some (.int (nI ri)), some (.int (nI dj)), some (.int (nI j)), some (.int (nI (i + 2))), none]) rfl (fun k x h => by rcases k with _ | _ | _ | _ | _ | _ | _ | k <;> first | exact h | (simp at h)) ?_
          rw [rowP_c c_30, List.cons_append, List.foldl_cons, show (lyS q q0 ri dj) I (i, j) = I from if_pos c_45]
          exact ihi (i + 2) (by show 2 * w - (i + 2) < 2 * w - i; omega) _ va vb vc vd (by omega)
        · refine rn_aload_n dX0_layMirrors_48 rfl rfl ?_
          refine rn_iload dX0_layMirrors_49 rfl ?_
          refine rn_iload_n dX0_layMirrors_51 rfl rfl ?_
          refine rn_iadd dX0_layMirrors_52 ?_
          refine rn_top (nI_add _ _) ?_
          refine rn_iload dX0_layMirrors_53 rfl ?_
          refine rn_iload_n dX0_layMirrors_55 rfl rfl ?_
          refine rn_iadd dX0_layMirrors_56 ?_
          refine rn_top (nI_add _ _) ?_
          refine rn_iload dX0_layMirrors_57 rfl ?_
          refine rn_callVq (st := []) dX0_layMirrors_59 cf_0_64 (c_X0_put hd va vb w80 h80 (decide_eq_true (by omega)) _) (by decide) hd.1 hd.2.1 rfl rfl (Nat.le_of_ble_eq_true rfl) ?_
          refine rn_iinc (v := nI (i + 2)) (ls' := [some (.ref a), some (.ref a0), some (.int (nI ri)), some (.int (nI dj)), some (.int (nI j)), some (.int (nI (i + 2))), some (.int (I q0 (8 * j + i / 2)))]) dX0_layMirrors_62 rfl (nI_add _ 2) (by decide) rfl rfl ?_
          refine rn_goto (tgt := 22) dX0_layMirrors_65 (by decide) ?_
          refine rn_ls (ls' := [some (.ref a), some (.ref a0), some (.int (nI ri)), some (.int (nI dj)), some (.int (nI j)), some (.int (nI (i + 2))), none]) rfl (fun k x h => by rcases k with _ | _ | _ | _ | _ | _ | _ | k <;> first | exact h | (simp at h)) ?_
          rw [rowP_c c_30, List.cons_append, List.foldl_cons, show (lyS q q0 ri dj) I (i, j) = (am_up I q (8 * (j + dj) + (i + ri) / 2) (I q0 (8 * j + i / 2))) from if_neg c_45]
          exact ihi (i + 2) (by show 2 * w - (i + 2) < 2 * w - i; omega) _ (by rw [am_up_a _ _ hd.ne]; exact va) (by rw [am_up_a _ _ hd.ne]; exact vb) (by rw [am_up_a _ _ hx]; exact vc) (by rw [am_up_a _ _ hx]; exact vd) (by omega)
    intro I va vb vc vd
    refine rn_iload dX0_layMirrors_3 rfl ?_
    refine rn_iconst (v := nI 2) dX0_layMirrors_5 (by decide) ?_
    refine rn_aload_n dX0_layMirrors_6 rfl rfl ?_
    refine rn_getI dX0_layMirrors_7 fd_0_15 hd0.1 hd0.2.1 rfl ?_
    refine rn_top (y := nI h) (vd) ?_
    refine rn_imul dX0_layMirrors_10 ?_
    refine rn_top (pk_mul _ _) ?_
    refine rn_icmp_geN (tgt := 74) dX0_layMirrors_11 (by decide) (by omega) (by omega) (fun c_11 => ?_) (fun c_11 => ?_)
    · refine rn_return dX0_layMirrors_74 rfl ?_
      rw [rowsP_n c_11]
      exact ⟨rfl, rfl, rfl⟩
    · refine rn_iconst (v := nI 1) dX0_layMirrors_14 (by decide) ?_
      refine rn_iload dX0_layMirrors_15 rfl ?_
      refine rn_iconst (v := nI 1) dX0_layMirrors_17 (by decide) ?_
      refine rn_iand dX0_layMirrors_18 ?_
      refine rn_top (z_nand (by omega)) ?_
      refine rn_iadd dX0_layMirrors_19 ?_
      refine rn_top (nI_add _ _) ?_
      refine rn_istore (ls' := [some (.ref a), some (.ref a0), some (.int (nI ri)), some (.int (nI dj)), some (.int (nI j)), some (.int (nI (1 + (j % 2)))), none]) dX0_layMirrors_20 (by decide) rfl rfl ?_
      rw [rowsP_c c_11]
      exact LI c_11 (1 + j % 2) I va vb vc vd (by omega)
  refine am_mt ⟨by decide +kernel, rfl⟩ (Nat.le_of_ble_eq_true rfl) rfl ?_
  refine rn_iconst (v := nI 1) dX0_layMirrors_0 (by decide) ?_
  refine rn_istore (ls' := [some (.ref a), some (.ref a0), some (.int (nI ri)), some (.int (nI dj)), some (.int (nI 1)), none, none]) dX0_layMirrors_1 (by decide) rfl rfl ?_
  exact LJ 1 (by omega) (by omega) I va vb vc vd
set_option maxHeartbeats 1000000 in
set_option maxRecDepth 100000 in
theorem c_X0_takeTurned_00 {S : am_S} {a q a0 q0 w h : Nat} (hd : am_dr S a q) (hd0 : am_dr S a0 q0) (hne : a0 ≠ a) (hq : q0 ≠ q) (w1 : 1 ≤ w) (w8 : w ≤ 8) (h1 : 1 ≤ h) (h8 : h ≤ 8) {I : am_I} (vc : I a0 0 = nI w) (vd : I a0 1 = nI h) : am_Mt 2 Y_X0_takeTurned (0, 0) [.ref a, .ref a0, .int (nI 0), .int (nI 0)] S I (am_q none S (List.foldl (ttS q q0 w h 0 0) (dr_clr I a q w h) (pts w h))) := by
  have hx := hd.ne2 hd0
  have LJ : ∀ j, 1 ≤ j → j ≤ 2 * h → ∀ I, I a 0 = nI w → I a 1 = nI h → I a0 0 = nI w → I a0 1 = nI h → am_Rn 2 Y_X0_takeTurned (0, 0) 53 [some (.ref a), some (.ref a0), some (.int (nI 0)), some (.int (nI 0)), some (.int (nI 0)), some (.int (nI j)), none, none, none, none, none] [] S I (am_q none S (List.foldl (ttS q q0 w h 0 0) I (rowsP w h j))) := by
    intro j hj1 hj2
    revert hj1
    refine am_loop (P := fun j => 1 ≤ j → ∀ I, I a 0 = nI w → I a 1 = nI h → I a0 0 = nI w → I a0 1 = nI h → am_Rn 2 Y_X0_takeTurned (0, 0) 53 [some (.ref a), some (.ref a0), some (.int (nI 0)), some (.int (nI 0)), some (.int (nI 0)), some (.int (nI j)), none, none, none, none, none] [] S I (am_q none S (List.foldl (ttS q q0 w h 0 0) I (rowsP w h j)))) (2 * h) ?_ j hj2
    clear hj2 j
    intro j hj2 ihj0 hj1
    have ihj : j < 2 * h → _ := fun hl => ihj0 hl (by omega)
    have LI : j < 2 * h → ∀ i, ∀ I, I a 0 = nI w → I a 1 = nI h → I a0 0 = nI w → I a0 1 = nI h → (1 ≤ i ∧ (i + j) % 2 = 1 ∧ i ≤ 2 * w + 1) → am_Rn 2 Y_X0_takeTurned (0, 0) 72 [some (.ref a), some (.ref a0), some (.int (nI 0)), some (.int (nI 0)), some (.int (nI 0)), some (.int (nI j)), some (.int (nI i)), none, none, none, none] [] S I (am_q none S (List.foldl (ttS q q0 w h 0 0) I (rowP w j i ++ rowsP w h (j + 1)))) := by
      intro c_61
      refine am_wf (fun i => 2 * w - i) ?_
      intro i ihi I va vb vc vd hip
      refine rn_iload dX0_takeTurned_72 rfl ?_
      refine rn_iconst (v := nI 2) dX0_takeTurned_74 (by decide) ?_
      refine rn_aload_n dX0_takeTurned_75 rfl rfl ?_
      refine rn_getI dX0_takeTurned_76 fd_0_9 hd0.1 hd0.2.1 rfl ?_
      refine rn_top (y := nI w) (vc) ?_
      refine rn_imul dX0_takeTurned_79 ?_
      refine rn_top (pk_mul _ _) ?_
      refine rn_icmp_geN (tgt := 168) dX0_takeTurned_80 (by decide) (by omega) (by omega) (fun c_80 => ?_) (fun c_80 => ?_)
      · refine rn_iinc (v := nI (j + 1)) (ls' := [some (.ref a), some (.ref a0), some (.int (nI 0)), some (.int (nI 0)), some (.int (nI 0)), some (.int (nI (j + 1))), some (.int (nI i)), none, none, none, none]) dX0_takeTurned_168 rfl (nI_add _ 1) (by decide) rfl rfl ?_
        refine rn_goto (tgt := 53) dX0_takeTurned_171 (by decide) ?_
        refine rn_ls (ls' := [some (.ref a), some (.ref a0), some (.int (nI 0)), some (.int (nI 0)), some (.int (nI 0)), some (.int (nI (j + 1))), none, none, none, none, none]) rfl (fun k x h => by rcases k with _ | _ | _ | _ | _ | _ | _ | _ | _ | _ | _ | k <;> first | exact h | (simp at h)) ?_
        rw [rowP_n c_80, List.nil_append]
        exact ihj c_61 I va vb vc vd
      · refine rn_aload_n dX0_takeTurned_83 rfl rfl ?_
        refine rn_iload dX0_takeTurned_84 rfl ?_
        refine rn_iload dX0_takeTurned_86 rfl ?_
        refine rn_callVq (st := []) dX0_takeTurned_88 cf_0_54 (c_X0_mirrorAt hd0 vc vd w8 h8 (decide_eq_true (by omega))) (by decide) hd0.1 hd0.2.1 rfl rfl (Nat.le_of_ble_eq_true rfl) ?_
        refine rn_istore (ls' := [some (.ref a), some (.ref a0), some (.int (nI 0)), some (.int (nI 0)), some (.int (nI 0)), some (.int (nI j)), some (.int (nI i)), some (.int (I q0 (8 * j + i / 2))), none, none, none]) dX0_takeTurned_91 (by decide) rfl rfl ?_
        refine rn_aload_n dX0_takeTurned_93 rfl rfl ?_
        refine rn_iload_n dX0_takeTurned_94 rfl rfl ?_
        refine rn_iload dX0_takeTurned_95 rfl ?_
        refine rn_iload dX0_takeTurned_97 rfl ?_
        refine rn_callSq (st := []) dX0_takeTurned_99 cf_0_57 (c_X0_turnedColumn hd0 vc vd (t := 0) (by decide) (by omega) (by omega)) (by decide) rfl rfl (Nat.le_of_ble_eq_true rfl) ?_
        refine rn_istore (ls' := [some (.ref a), some (.ref a0), some (.int (nI 0)), some (.int (nI 0)), some (.int (nI 0)), some (.int (nI j)), some (.int (nI i)), some (.int (I q0 (8 * j + i / 2))), some (.int (nI i)), none, none]) dX0_takeTurned_102 (by decide) rfl rfl ?_
        refine rn_aload_n dX0_takeTurned_104 rfl rfl ?_
        refine rn_iload_n dX0_takeTurned_105 rfl rfl ?_
        refine rn_iload dX0_takeTurned_106 rfl ?_
        refine rn_iload dX0_takeTurned_108 rfl ?_
        refine rn_callSq (st := []) dX0_takeTurned_110 cf_0_61 (c_X0_turnedRow hd0 vc vd (t := 0) (by decide) (by omega) (by omega)) (by decide) rfl rfl (Nat.le_of_ble_eq_true rfl) ?_
        refine rn_istore (ls' := [some (.ref a), some (.ref a0), some (.int (nI 0)), some (.int (nI 0)), some (.int (nI 0)), some (.int (nI j)), some (.int (nI i)), some (.int (I q0 (8 * j + i / 2))), some (.int (nI i)), some (.int (nI j)), none]) dX0_takeTurned_113 (by decide) rfl rfl ?_
        refine rn_iload dX0_takeTurned_115 rfl ?_
        refine rn_if_eqN (tgt := 132) dX0_takeTurned_117 (by decide) (by omega) (fun c_117 => ?_) (fun c_117 => ?_)
        · refine rn_iload dX0_takeTurned_132 rfl ?_
          refine rn_istore (ls' := [some (.ref a), some (.ref a0), some (.int (nI 0)), some (.int (nI 0)), some (.int (nI 0)), some (.int (nI j)), some (.int (nI i)), some (.int (I q0 (8 * j + i / 2))), some (.int (nI i)), some (.int (nI j)), some (.int (I q0 (8 * j + i / 2)))]) dX0_takeTurned_134 (by decide) rfl rfl ?_
          refine rn_aload_n dX0_takeTurned_136 rfl rfl ?_
          refine rn_iload_n dX0_takeTurned_137 rfl rfl ?_
          refine rn_if_eqN (tgt := 153) dX0_takeTurned_138 (by decide) (by omega) (fun c_138 => ?_) (fun c_138 => ?_)
          · refine rn_iload dX0_takeTurned_153 rfl ?_
            refine rn_iload dX0_takeTurned_155 rfl ?_
            refine rn_iload dX0_takeTurned_157 rfl ?_
            refine rn_callVq (st := []) dX0_takeTurned_159 cf_0_64 (c_X0_put hd va vb (by omega) (by omega) (decide_eq_true (by omega)) _) (by decide) hd.1 hd.2.1 rfl rfl (Nat.le_of_ble_eq_true rfl) ?_
            refine rn_iinc (v := nI (i + 2)) (ls' := [some (.ref a), some (.ref a0), some (.int (nI 0)), some (.int (nI 0)), some (.int (nI 0)), some (.int (nI j)), some (.int (nI (i + 2))), some (.int (I q0 (8 * j + i / 2))), some (.int (nI i)), some (.int (nI j)), some (.int (I q0 (8 * j + i / 2)))]) dX0_takeTurned_162 rfl (nI_add _ 2) (by decide) rfl rfl ?_
            refine rn_goto (tgt := 72) dX0_takeTurned_165 (by decide) ?_
            refine rn_ls (ls' := [some (.ref a), some (.ref a0), some (.int (nI 0)), some (.int (nI 0)), some (.int (nI 0)), some (.int (nI j)), some (.int (nI (i + 2))), none, none, none, none]) rfl (fun k x h => by rcases k with _ | _ | _ | _ | _ | _ | _ | _ | _ | _ | _ | k <;> first | exact h | (simp at h)) ?_
            rw [rowP_c c_80, List.cons_append, List.foldl_cons, show (ttS q q0 w h 0 0) I (i, j) = (am_up I q (8 * (j) + (i) / 2) (I q0 (8 * j + i / 2))) from rfl]
            exact ihi (i + 2) (by show 2 * w - (i + 2) < 2 * w - i; omega) _ (by rw [am_up_a _ _ hd.ne]; exact va) (by rw [am_up_a _ _ hd.ne]; exact vb) (by rw [am_up_a _ _ hx]; exact vc) (by rw [am_up_a _ _ hx]; exact vd) (by omega)
          · exact absurd c_138 (by decide)
        · exact absurd c_117 (by decide)
    intro I va vb vc vd
    refine rn_iload dX0_takeTurned_53 rfl ?_
    refine rn_iconst (v := nI 2) dX0_takeTurned_55 (by decide) ?_
    refine rn_aload_n dX0_takeTurned_56 rfl rfl ?_
    refine rn_getI dX0_takeTurned_57 fd_0_15 hd0.1 hd0.2.1 rfl ?_
    refine rn_top (y := nI h) (vd) ?_
    refine rn_imul dX0_takeTurned_60 ?_
    refine rn_top (pk_mul _ _) ?_
    refine rn_icmp_geN (tgt := 174) dX0_takeTurned_61 (by decide) (by omega) (by omega) (fun c_61 => ?_) (fun c_61 => ?_)
    · refine rn_return dX0_takeTurned_174 rfl ?_
      rw [rowsP_n c_61]
      exact ⟨rfl, rfl, rfl⟩
    · refine rn_iconst (v := nI 1) dX0_takeTurned_64 (by decide) ?_
      refine rn_iload dX0_takeTurned_65 rfl ?_
      refine rn_iconst (v := nI 1) dX0_takeTurned_67 (by decide) ?_
      refine rn_iand dX0_takeTurned_68 ?_
      refine rn_top (z_nand (by omega)) ?_
      refine rn_iadd dX0_takeTurned_69 ?_
      refine rn_top (nI_add _ _) ?_
      refine rn_istore (ls' := [some (.ref a), some (.ref a0), some (.int (nI 0)), some (.int (nI 0)), some (.int (nI 0)), some (.int (nI j)), some (.int (nI (1 + (j % 2)))), none, none, none, none]) dX0_takeTurned_70 (by decide) rfl rfl ?_
      rw [rowsP_c c_61]
      exact LI c_61 (1 + j % 2) I va vb vc vd (by omega)
  refine am_mt ⟨by decide +kernel, rfl⟩ (Nat.le_of_ble_eq_true rfl) rfl ?_
  refine rn_iload_n dX0_takeTurned_0 rfl rfl ?_
  refine rn_iconst (v := nI 1) dX0_takeTurned_1 (by decide) ?_
  refine rn_iand dX0_takeTurned_2 ?_
  refine rn_top (y := nI 0) (by decide) ?_
  refine rn_iconst (v := nI 1) dX0_takeTurned_3 (by decide) ?_
  refine rn_icmp_neN (tgt := 11) dX0_takeTurned_4 (by decide) (by omega) (by omega) (fun c_4 => ?_) (fun c_4 => ?_)
  · refine rn_iconst (v := nI 0) dX0_takeTurned_11 (by decide) ?_
    refine rn_istore (ls' := [some (.ref a), some (.ref a0), some (.int (nI 0)), some (.int (nI 0)), some (.int (nI 0)), none, none, none, none, none, none]) dX0_takeTurned_12 (by decide) rfl rfl ?_
    refine rn_aload_n dX0_takeTurned_14 rfl rfl ?_
    refine rn_iload dX0_takeTurned_15 rfl ?_
    refine rn_if_eqN (tgt := 27) dX0_takeTurned_17 (by decide) (by omega) (fun c_17 => ?_) (fun c_17 => ?_)
    · refine rn_aload_n dX0_takeTurned_27 rfl rfl ?_
      refine rn_getI dX0_takeTurned_28 fd_0_9 hd0.1 hd0.2.1 rfl ?_
      refine rn_top (y := nI w) (vc) ?_
      refine rn_iload dX0_takeTurned_31 rfl ?_
      refine rn_if_eqN (tgt := 43) dX0_takeTurned_33 (by decide) (by omega) (fun c_33 => ?_) (fun c_33 => ?_)
      · refine rn_aload_n dX0_takeTurned_43 rfl rfl ?_
        refine rn_getI dX0_takeTurned_44 fd_0_15 hd0.1 hd0.2.1 rfl ?_
        refine rn_top (y := nI h) (vd) ?_
        refine rn_callVq (st := []) dX0_takeTurned_47 cf_0_50 (c_X0_clear hd (w := w) (h := h) (by omega) (by omega) (by omega) (by omega)) (by decide) hd.1 hd.2.1 rfl rfl (Nat.le_of_ble_eq_true rfl) ?_
        refine rn_iconst (v := nI 1) dX0_takeTurned_50 (by decide) ?_
        refine rn_istore (ls' := [some (.ref a), some (.ref a0), some (.int (nI 0)), some (.int (nI 0)), some (.int (nI 0)), some (.int (nI 1)), none, none, none, none, none]) dX0_takeTurned_51 (by decide) rfl rfl ?_
        exact LJ 1 (by omega) (by omega) _ (dr_clr_w I hd.ne).1 (dr_clr_w I hd.ne).2 (by rw [dr_clr_o I hne hx]; exact vc) (by rw [dr_clr_o I hne hx]; exact vd)
      · exact absurd c_33 (by decide)
    · exact absurd c_17 (by decide)
  · exact absurd c_4 (by decide)
set_option maxHeartbeats 1000000 in
set_option maxRecDepth 100000 in
theorem c_X0_takeTurned_01 {S : am_S} {a q a0 q0 w h : Nat} (hd : am_dr S a q) (hd0 : am_dr S a0 q0) (hne : a0 ≠ a) (hq : q0 ≠ q) (w1 : 1 ≤ w) (w8 : w ≤ 8) (h1 : 1 ≤ h) (h8 : h ≤ 8) {I : am_I} (vc : I a0 0 = nI w) (vd : I a0 1 = nI h) : am_Mt 2 Y_X0_takeTurned (0, 0) [.ref a, .ref a0, .int (nI 0), .int (nI 1)] S I (am_q none S (List.foldl (ttS q q0 w h 0 1) (dr_clr I a q w h) (pts w h))) := by
  have hx := hd.ne2 hd0
  have LJ : ∀ j, 1 ≤ j → j ≤ 2 * h → ∀ I, I a 0 = nI w → I a 1 = nI h → I a0 0 = nI w → I a0 1 = nI h → am_Rn 2 Y_X0_takeTurned (0, 0) 53 [some (.ref a), some (.ref a0), some (.int (nI 0)), some (.int (nI 1)), some (.int (nI 0)), some (.int (nI j)), none, none, none, none, none] [] S I (am_q none S (List.foldl (ttS q q0 w h 0 1) I (rowsP w h j))) := by
    intro j hj1 hj2
    revert hj1
    refine am_loop (P := fun j => 1 ≤ j → ∀ I, I a 0 = nI w → I a 1 = nI h → I a0 0 = nI w → I a0 1 = nI h → am_Rn 2 Y_X0_takeTurned (0, 0) 53 [some (.ref a), some (.ref a0), some (.int (nI 0)), some (.int (nI 1)), some (.int (nI 0)), some (.int (nI j)), none, none, none, none, none] [] S I (am_q none S (List.foldl (ttS q q0 w h 0 1) I (rowsP w h j)))) (2 * h) ?_ j hj2
    clear hj2 j
    intro j hj2 ihj0 hj1
    have ihj : j < 2 * h → _ := fun hl => ihj0 hl (by omega)
    have LI : j < 2 * h → ∀ i, ∀ I, I a 0 = nI w → I a 1 = nI h → I a0 0 = nI w → I a0 1 = nI h → (1 ≤ i ∧ (i + j) % 2 = 1 ∧ i ≤ 2 * w + 1) → am_Rn 2 Y_X0_takeTurned (0, 0) 72 [some (.ref a), some (.ref a0), some (.int (nI 0)), some (.int (nI 1)), some (.int (nI 0)), some (.int (nI j)), some (.int (nI i)), none, none, none, none] [] S I (am_q none S (List.foldl (ttS q q0 w h 0 1) I (rowP w j i ++ rowsP w h (j + 1)))) := by
      intro c_61
      refine am_wf (fun i => 2 * w - i) ?_
      intro i ihi I va vb vc vd hip
      refine rn_iload dX0_takeTurned_72 rfl ?_
      refine rn_iconst (v := nI 2) dX0_takeTurned_74 (by decide) ?_
      refine rn_aload_n dX0_takeTurned_75 rfl rfl ?_
      refine rn_getI dX0_takeTurned_76 fd_0_9 hd0.1 hd0.2.1 rfl ?_
      refine rn_top (y := nI w) (vc) ?_
      refine rn_imul dX0_takeTurned_79 ?_
      refine rn_top (pk_mul _ _) ?_
      refine rn_icmp_geN (tgt := 168) dX0_takeTurned_80 (by decide) (by omega) (by omega) (fun c_80 => ?_) (fun c_80 => ?_)
      · refine rn_iinc (v := nI (j + 1)) (ls' := [some (.ref a), some (.ref a0), some (.int (nI 0)), some (.int (nI 1)), some (.int (nI 0)), some (.int (nI (j + 1))), some (.int (nI i)), none, none, none, none]) dX0_takeTurned_168 rfl (nI_add _ 1) (by decide) rfl rfl ?_
        refine rn_goto (tgt := 53) dX0_takeTurned_171 (by decide) ?_
        refine rn_ls (ls' := [some (.ref a), some (.ref a0), some (.int (nI 0)), some (.int (nI 1)), some (.int (nI 0)), some (.int (nI (j + 1))), none, none, none, none, none]) rfl (fun k x h => by rcases k with _ | _ | _ | _ | _ | _ | _ | _ | _ | _ | _ | k <;> first | exact h | (simp at h)) ?_
        rw [rowP_n c_80, List.nil_append]
        exact ihj c_61 I va vb vc vd
      · refine rn_aload_n dX0_takeTurned_83 rfl rfl ?_
        refine rn_iload dX0_takeTurned_84 rfl ?_
        refine rn_iload dX0_takeTurned_86 rfl ?_
        refine rn_callVq (st := []) dX0_takeTurned_88 cf_0_54 (c_X0_mirrorAt hd0 vc vd w8 h8 (decide_eq_true (by omega))) (by decide) hd0.1 hd0.2.1 rfl rfl (Nat.le_of_ble_eq_true rfl) ?_
        refine rn_istore (ls' := [some (.ref a), some (.ref a0), some (.int (nI 0)), some (.int (nI 1)), some (.int (nI 0)), some (.int (nI j)), some (.int (nI i)), some (.int (I q0 (8 * j + i / 2))), none, none, none]) dX0_takeTurned_91 (by decide) rfl rfl ?_
        refine rn_aload_n dX0_takeTurned_93 rfl rfl ?_
        refine rn_iload_n dX0_takeTurned_94 rfl rfl ?_
        refine rn_iload dX0_takeTurned_95 rfl ?_
        refine rn_iload dX0_takeTurned_97 rfl ?_
        refine rn_callSq (st := []) dX0_takeTurned_99 cf_0_57 (c_X0_turnedColumn hd0 vc vd (t := 0) (by decide) (by omega) (by omega)) (by decide) rfl rfl (Nat.le_of_ble_eq_true rfl) ?_
        refine rn_istore (ls' := [some (.ref a), some (.ref a0), some (.int (nI 0)), some (.int (nI 1)), some (.int (nI 0)), some (.int (nI j)), some (.int (nI i)), some (.int (I q0 (8 * j + i / 2))), some (.int (nI i)), none, none]) dX0_takeTurned_102 (by decide) rfl rfl ?_
        refine rn_aload_n dX0_takeTurned_104 rfl rfl ?_
        refine rn_iload_n dX0_takeTurned_105 rfl rfl ?_
        refine rn_iload dX0_takeTurned_106 rfl ?_
        refine rn_iload dX0_takeTurned_108 rfl ?_
        refine rn_callSq (st := []) dX0_takeTurned_110 cf_0_61 (c_X0_turnedRow hd0 vc vd (t := 0) (by decide) (by omega) (by omega)) (by decide) rfl rfl (Nat.le_of_ble_eq_true rfl) ?_
        refine rn_istore (ls' := [some (.ref a), some (.ref a0), some (.int (nI 0)), some (.int (nI 1)), some (.int (nI 0)), some (.int (nI j)), some (.int (nI i)), some (.int (I q0 (8 * j + i / 2))), some (.int (nI i)), some (.int (nI j)), none]) dX0_takeTurned_113 (by decide) rfl rfl ?_
        refine rn_iload dX0_takeTurned_115 rfl ?_
        refine rn_if_eqN (tgt := 132) dX0_takeTurned_117 (by decide) (by omega) (fun c_117 => ?_) (fun c_117 => ?_)
        · refine rn_iload dX0_takeTurned_132 rfl ?_
          refine rn_istore (ls' := [some (.ref a), some (.ref a0), some (.int (nI 0)), some (.int (nI 1)), some (.int (nI 0)), some (.int (nI j)), some (.int (nI i)), some (.int (I q0 (8 * j + i / 2))), some (.int (nI i)), some (.int (nI j)), some (.int (I q0 (8 * j + i / 2)))]) dX0_takeTurned_134 (by decide) rfl rfl ?_
          refine rn_aload_n dX0_takeTurned_136 rfl rfl ?_
          refine rn_iload_n dX0_takeTurned_137 rfl rfl ?_
          refine rn_if_eqN (tgt := 153) dX0_takeTurned_138 (by decide) (by omega) (fun c_138 => ?_) (fun c_138 => ?_)
          · exact absurd c_138 (by decide)
          · refine rn_iconst (v := nI 2) dX0_takeTurned_141 (by decide) ?_
            refine rn_aload_n dX0_takeTurned_142 rfl rfl ?_
            refine rn_getI dX0_takeTurned_143 fd_0_9 hd.1 hd.2.1 rfl ?_
            refine rn_top (y := nI w) (va) ?_
            refine rn_imul dX0_takeTurned_146 ?_
            refine rn_top (pk_mul _ _) ?_
            refine rn_iload dX0_takeTurned_147 rfl ?_
            refine rn_isub dX0_takeTurned_149 ?_
            refine rn_top (pk_sub (by omega)) ?_
            refine rn_goto (tgt := 155) dX0_takeTurned_150 (by decide) ?_
            refine rn_iload dX0_takeTurned_155 rfl ?_
            refine rn_iload dX0_takeTurned_157 rfl ?_
            refine rn_callVq (st := []) dX0_takeTurned_159 cf_0_64 (c_X0_put hd va vb (by omega) (by omega) (decide_eq_true (by omega)) _) (by decide) hd.1 hd.2.1 rfl rfl (Nat.le_of_ble_eq_true rfl) ?_
            refine rn_iinc (v := nI (i + 2)) (ls' := [some (.ref a), some (.ref a0), some (.int (nI 0)), some (.int (nI 1)), some (.int (nI 0)), some (.int (nI j)), some (.int (nI (i + 2))), some (.int (I q0 (8 * j + i / 2))), some (.int (nI i)), some (.int (nI j)), some (.int (I q0 (8 * j + i / 2)))]) dX0_takeTurned_162 rfl (nI_add _ 2) (by decide) rfl rfl ?_
            refine rn_goto (tgt := 72) dX0_takeTurned_165 (by decide) ?_
            refine rn_ls (ls' := [some (.ref a), some (.ref a0), some (.int (nI 0)), some (.int (nI 1)), some (.int (nI 0)), some (.int (nI j)), some (.int (nI (i + 2))), none, none, none, none]) rfl (fun k x h => by rcases k with _ | _ | _ | _ | _ | _ | _ | _ | _ | _ | _ | k <;> first | exact h | (simp at h)) ?_
            rw [rowP_c c_80, List.cons_append, List.foldl_cons, show (ttS q q0 w h 0 1) I (i, j) = (am_up I q (8 * (j) + ((2 * w) - i) / 2) (I q0 (8 * j + i / 2))) from rfl]
            exact ihi (i + 2) (by show 2 * w - (i + 2) < 2 * w - i; omega) _ (by rw [am_up_a _ _ hd.ne]; exact va) (by rw [am_up_a _ _ hd.ne]; exact vb) (by rw [am_up_a _ _ hx]; exact vc) (by rw [am_up_a _ _ hx]; exact vd) (by omega)
        · exact absurd c_117 (by decide)
    intro I va vb vc vd
    refine rn_iload dX0_takeTurned_53 rfl ?_
    refine rn_iconst (v := nI 2) dX0_takeTurned_55 (by decide) ?_
    refine rn_aload_n dX0_takeTurned_56 rfl rfl ?_
    refine rn_getI dX0_takeTurned_57 fd_0_15 hd0.1 hd0.2.1 rfl ?_
    refine rn_top (y := nI h) (vd) ?_
    refine rn_imul dX0_takeTurned_60 ?_
    refine rn_top (pk_mul _ _) ?_
    refine rn_icmp_geN (tgt := 174) dX0_takeTurned_61 (by decide) (by omega) (by omega) (fun c_61 => ?_) (fun c_61 => ?_)
    · refine rn_return dX0_takeTurned_174 rfl ?_
      rw [rowsP_n c_61]
      exact ⟨rfl, rfl, rfl⟩
    · refine rn_iconst (v := nI 1) dX0_takeTurned_64 (by decide) ?_
      refine rn_iload dX0_takeTurned_65 rfl ?_
      refine rn_iconst (v := nI 1) dX0_takeTurned_67 (by decide) ?_
      refine rn_iand dX0_takeTurned_68 ?_
      refine rn_top (z_nand (by omega)) ?_
      refine rn_iadd dX0_takeTurned_69 ?_
      refine rn_top (nI_add _ _) ?_
      refine rn_istore (ls' := [some (.ref a), some (.ref a0), some (.int (nI 0)), some (.int (nI 1)), some (.int (nI 0)), some (.int (nI j)), some (.int (nI (1 + (j % 2)))), none, none, none, none]) dX0_takeTurned_70 (by decide) rfl rfl ?_
      rw [rowsP_c c_61]
      exact LI c_61 (1 + j % 2) I va vb vc vd (by omega)
  refine am_mt ⟨by decide +kernel, rfl⟩ (Nat.le_of_ble_eq_true rfl) rfl ?_
  refine rn_iload_n dX0_takeTurned_0 rfl rfl ?_
  refine rn_iconst (v := nI 1) dX0_takeTurned_1 (by decide) ?_
  refine rn_iand dX0_takeTurned_2 ?_
  refine rn_top (y := nI 0) (by decide) ?_
  refine rn_iconst (v := nI 1) dX0_takeTurned_3 (by decide) ?_
  refine rn_icmp_neN (tgt := 11) dX0_takeTurned_4 (by decide) (by omega) (by omega) (fun c_4 => ?_) (fun c_4 => ?_)
  · refine rn_iconst (v := nI 0) dX0_takeTurned_11 (by decide) ?_
    refine rn_istore (ls' := [some (.ref a), some (.ref a0), some (.int (nI 0)), some (.int (nI 1)), some (.int (nI 0)), none, none, none, none, none, none]) dX0_takeTurned_12 (by decide) rfl rfl ?_
    refine rn_aload_n dX0_takeTurned_14 rfl rfl ?_
    refine rn_iload dX0_takeTurned_15 rfl ?_
    refine rn_if_eqN (tgt := 27) dX0_takeTurned_17 (by decide) (by omega) (fun c_17 => ?_) (fun c_17 => ?_)
    · refine rn_aload_n dX0_takeTurned_27 rfl rfl ?_
      refine rn_getI dX0_takeTurned_28 fd_0_9 hd0.1 hd0.2.1 rfl ?_
      refine rn_top (y := nI w) (vc) ?_
      refine rn_iload dX0_takeTurned_31 rfl ?_
      refine rn_if_eqN (tgt := 43) dX0_takeTurned_33 (by decide) (by omega) (fun c_33 => ?_) (fun c_33 => ?_)
      · refine rn_aload_n dX0_takeTurned_43 rfl rfl ?_
        refine rn_getI dX0_takeTurned_44 fd_0_15 hd0.1 hd0.2.1 rfl ?_
        refine rn_top (y := nI h) (vd) ?_
        refine rn_callVq (st := []) dX0_takeTurned_47 cf_0_50 (c_X0_clear hd (w := w) (h := h) (by omega) (by omega) (by omega) (by omega)) (by decide) hd.1 hd.2.1 rfl rfl (Nat.le_of_ble_eq_true rfl) ?_
        refine rn_iconst (v := nI 1) dX0_takeTurned_50 (by decide) ?_
        refine rn_istore (ls' := [some (.ref a), some (.ref a0), some (.int (nI 0)), some (.int (nI 1)), some (.int (nI 0)), some (.int (nI 1)), none, none, none, none, none]) dX0_takeTurned_51 (by decide) rfl rfl ?_
        exact LJ 1 (by omega) (by omega) _ (dr_clr_w I hd.ne).1 (dr_clr_w I hd.ne).2 (by rw [dr_clr_o I hne hx]; exact vc) (by rw [dr_clr_o I hne hx]; exact vd)
      · exact absurd c_33 (by decide)
    · exact absurd c_17 (by decide)
  · exact absurd c_4 (by decide)
set_option maxHeartbeats 1000000 in
set_option maxRecDepth 100000 in
theorem c_X0_takeTurned_10 {S : am_S} {a q a0 q0 w h : Nat} (hd : am_dr S a q) (hd0 : am_dr S a0 q0) (hne : a0 ≠ a) (hq : q0 ≠ q) (w1 : 1 ≤ w) (w8 : w ≤ 8) (h1 : 1 ≤ h) (h8 : h ≤ 8) {I : am_I} (vc : I a0 0 = nI w) (vd : I a0 1 = nI h) : am_Mt 2 Y_X0_takeTurned (0, 0) [.ref a, .ref a0, .int (nI 1), .int (nI 0)] S I (am_q none S (List.foldl (ttS q q0 w h 1 0) (dr_clr I a q h w) (pts w h))) := by
  have hx := hd.ne2 hd0
  have LJ : ∀ j, 1 ≤ j → j ≤ 2 * h → ∀ I, I a 0 = nI h → I a 1 = nI w → I a0 0 = nI w → I a0 1 = nI h → am_Rn 2 Y_X0_takeTurned (0, 0) 53 [some (.ref a), some (.ref a0), some (.int (nI 1)), some (.int (nI 0)), some (.int (nI 1)), some (.int (nI j)), none, none, none, none, none] [] S I (am_q none S (List.foldl (ttS q q0 w h 1 0) I (rowsP w h j))) := by
    intro j hj1 hj2
    revert hj1
    refine am_loop (P := fun j => 1 ≤ j → ∀ I, I a 0 = nI h → I a 1 = nI w → I a0 0 = nI w → I a0 1 = nI h → am_Rn 2 Y_X0_takeTurned (0, 0) 53 [some (.ref a), some (.ref a0), some (.int (nI 1)), some (.int (nI 0)), some (.int (nI 1)), some (.int (nI j)), none, none, none, none, none] [] S I (am_q none S (List.foldl (ttS q q0 w h 1 0) I (rowsP w h j)))) (2 * h) ?_ j hj2
    clear hj2 j
    intro j hj2 ihj0 hj1
    have ihj : j < 2 * h → _ := fun hl => ihj0 hl (by omega)
    have LI : j < 2 * h → ∀ i, ∀ I, I a 0 = nI h → I a 1 = nI w → I a0 0 = nI w → I a0 1 = nI h → (1 ≤ i ∧ (i + j) % 2 = 1 ∧ i ≤ 2 * w + 1) → am_Rn 2 Y_X0_takeTurned (0, 0) 72 [some (.ref a), some (.ref a0), some (.int (nI 1)), some (.int (nI 0)), some (.int (nI 1)), some (.int (nI j)), some (.int (nI i)), none, none, none, none] [] S I (am_q none S (List.foldl (ttS q q0 w h 1 0) I (rowP w j i ++ rowsP w h (j + 1)))) := by
      intro c_61
      refine am_wf (fun i => 2 * w - i) ?_
      intro i ihi I va vb vc vd hip
      refine rn_iload dX0_takeTurned_72 rfl ?_
      refine rn_iconst (v := nI 2) dX0_takeTurned_74 (by decide) ?_
      refine rn_aload_n dX0_takeTurned_75 rfl rfl ?_
      refine rn_getI dX0_takeTurned_76 fd_0_9 hd0.1 hd0.2.1 rfl ?_
      refine rn_top (y := nI w) (vc) ?_
      refine rn_imul dX0_takeTurned_79 ?_
      refine rn_top (pk_mul _ _) ?_
      refine rn_icmp_geN (tgt := 168) dX0_takeTurned_80 (by decide) (by omega) (by omega) (fun c_80 => ?_) (fun c_80 => ?_)
      · refine rn_iinc (v := nI (j + 1)) (ls' := [some (.ref a), some (.ref a0), some (.int (nI 1)), some (.int (nI 0)), some (.int (nI 1)), some (.int (nI (j + 1))), some (.int (nI i)), none, none, none, none]) dX0_takeTurned_168 rfl (nI_add _ 1) (by decide) rfl rfl ?_
        refine rn_goto (tgt := 53) dX0_takeTurned_171 (by decide) ?_
        refine rn_ls (ls' := [some (.ref a), some (.ref a0), some (.int (nI 1)), some (.int (nI 0)), some (.int (nI 1)), some (.int (nI (j + 1))), none, none, none, none, none]) rfl (fun k x h => by rcases k with _ | _ | _ | _ | _ | _ | _ | _ | _ | _ | _ | k <;> first | exact h | (simp at h)) ?_
        rw [rowP_n c_80, List.nil_append]
        exact ihj c_61 I va vb vc vd
      · refine rn_aload_n dX0_takeTurned_83 rfl rfl ?_
        refine rn_iload dX0_takeTurned_84 rfl ?_
        refine rn_iload dX0_takeTurned_86 rfl ?_
        refine rn_callVq (st := []) dX0_takeTurned_88 cf_0_54 (c_X0_mirrorAt hd0 vc vd w8 h8 (decide_eq_true (by omega))) (by decide) hd0.1 hd0.2.1 rfl rfl (Nat.le_of_ble_eq_true rfl) ?_
        refine rn_istore (ls' := [some (.ref a), some (.ref a0), some (.int (nI 1)), some (.int (nI 0)), some (.int (nI 1)), some (.int (nI j)), some (.int (nI i)), some (.int (I q0 (8 * j + i / 2))), none, none, none]) dX0_takeTurned_91 (by decide) rfl rfl ?_
        refine rn_aload_n dX0_takeTurned_93 rfl rfl ?_
        refine rn_iload_n dX0_takeTurned_94 rfl rfl ?_
        refine rn_iload dX0_takeTurned_95 rfl ?_
        refine rn_iload dX0_takeTurned_97 rfl ?_
        refine rn_callSq (st := []) dX0_takeTurned_99 cf_0_57 (c_X0_turnedColumn hd0 vc vd (t := 1) (by decide) (by omega) (by omega)) (by decide) rfl rfl (Nat.le_of_ble_eq_true rfl) ?_
        refine rn_istore (ls' := [some (.ref a), some (.ref a0), some (.int (nI 1)), some (.int (nI 0)), some (.int (nI 1)), some (.int (nI j)), some (.int (nI i)), some (.int (I q0 (8 * j + i / 2))), some (.int (nI (2 * h - j))), none, none]) dX0_takeTurned_102 (by decide) rfl rfl ?_
        refine rn_aload_n dX0_takeTurned_104 rfl rfl ?_
        refine rn_iload_n dX0_takeTurned_105 rfl rfl ?_
        refine rn_iload dX0_takeTurned_106 rfl ?_
        refine rn_iload dX0_takeTurned_108 rfl ?_
        refine rn_callSq (st := []) dX0_takeTurned_110 cf_0_61 (c_X0_turnedRow hd0 vc vd (t := 1) (by decide) (by omega) (by omega)) (by decide) rfl rfl (Nat.le_of_ble_eq_true rfl) ?_
        refine rn_istore (ls' := [some (.ref a), some (.ref a0), some (.int (nI 1)), some (.int (nI 0)), some (.int (nI 1)), some (.int (nI j)), some (.int (nI i)), some (.int (I q0 (8 * j + i / 2))), some (.int (nI (2 * h - j))), some (.int (nI i)), none]) dX0_takeTurned_113 (by decide) rfl rfl ?_
        refine rn_iload dX0_takeTurned_115 rfl ?_
        refine rn_if_eqN (tgt := 132) dX0_takeTurned_117 (by decide) (by omega) (fun c_117 => ?_) (fun c_117 => ?_)
        · exact absurd c_117 (by decide)
        · refine rn_iload dX0_takeTurned_120 rfl ?_
          refine rn_if_eq (tgt := 132) dX0_takeTurned_122 (by decide) (fun c_122 => ?_) (fun c_122 => ?_)
          · refine rn_iload dX0_takeTurned_132 rfl ?_
            refine rn_istore (ls' := [some (.ref a), some (.ref a0), some (.int (nI 1)), some (.int (nI 0)), some (.int (nI 1)), some (.int (nI j)), some (.int (nI i)), some (.int (I q0 (8 * j + i / 2))), some (.int (nI (2 * h - j))), some (.int (nI i)), some (.int (I q0 (8 * j + i / 2)))]) dX0_takeTurned_134 (by decide) rfl rfl ?_
            refine rn_aload_n dX0_takeTurned_136 rfl rfl ?_
            refine rn_iload_n dX0_takeTurned_137 rfl rfl ?_
            refine rn_if_eqN (tgt := 153) dX0_takeTurned_138 (by decide) (by omega) (fun c_138 => ?_) (fun c_138 => ?_)
            · refine rn_iload dX0_takeTurned_153 rfl ?_
              refine rn_iload dX0_takeTurned_155 rfl ?_
              refine rn_iload dX0_takeTurned_157 rfl ?_
              refine rn_callVq (st := []) dX0_takeTurned_159 cf_0_64 (c_X0_put hd va vb (by omega) (by omega) (decide_eq_true (by omega)) _) (by decide) hd.1 hd.2.1 rfl rfl (Nat.le_of_ble_eq_true rfl) ?_
              refine rn_iinc (v := nI (i + 2)) (ls' := [some (.ref a), some (.ref a0), some (.int (nI 1)), some (.int (nI 0)), some (.int (nI 1)), some (.int (nI j)), some (.int (nI (i + 2))), some (.int (I q0 (8 * j + i / 2))), some (.int (nI (2 * h - j))), some (.int (nI i)), some (.int (I q0 (8 * j + i / 2)))]) dX0_takeTurned_162 rfl (nI_add _ 2) (by decide) rfl rfl ?_
              refine rn_goto (tgt := 72) dX0_takeTurned_165 (by decide) ?_
              refine rn_ls (ls' := [some (.ref a), some (.ref a0), some (.int (nI 1)), some (.int (nI 0)), some (.int (nI 1)), some (.int (nI j)), some (.int (nI (i + 2))), none, none, none, none]) rfl (fun k x h => by rcases k with _ | _ | _ | _ | _ | _ | _ | _ | _ | _ | _ | k <;> first | exact h | (simp at h)) ?_
              rw [rowP_c c_80, List.cons_append, List.foldl_cons, show (ttS q q0 w h 1 0) I (i, j) = (am_up I q (8 * (i) + (2 * h - j) / 2) (I q0 (8 * j + i / 2))) from (by simp [ttS, tval, trow, tcol, tflp, twid, c_122])]
              exact ihi (i + 2) (by show 2 * w - (i + 2) < 2 * w - i; omega) _ (by rw [am_up_a _ _ hd.ne]; exact va) (by rw [am_up_a _ _ hd.ne]; exact vb) (by rw [am_up_a _ _ hx]; exact vc) (by rw [am_up_a _ _ hx]; exact vd) (by omega)
            · exact absurd c_138 (by decide)
          · refine rn_iconst (v := nI 3) dX0_takeTurned_125 (by decide) ?_
            refine rn_iload dX0_takeTurned_126 rfl ?_
            refine rn_isub dX0_takeTurned_128 ?_
            refine rn_goto (tgt := 134) dX0_takeTurned_129 (by decide) ?_
            refine rn_istore (ls' := [some (.ref a), some (.ref a0), some (.int (nI 1)), some (.int (nI 0)), some (.int (nI 1)), some (.int (nI j)), some (.int (nI i)), some (.int (I q0 (8 * j + i / 2))), some (.int (nI (2 * h - j))), some (.int (nI i)), some (.int ((nI 3) - (I q0 (8 * j + i / 2))))]) dX0_takeTurned_134 (by decide) rfl rfl ?_
            refine rn_aload_n dX0_takeTurned_136 rfl rfl ?_
            refine rn_iload_n dX0_takeTurned_137 rfl rfl ?_
            refine rn_if_eqN (tgt := 153) dX0_takeTurned_138 (by decide) (by omega) (fun c_138 => ?_) (fun c_138 => ?_)
            · refine rn_iload dX0_takeTurned_153 rfl ?_
              refine rn_iload dX0_takeTurned_155 rfl ?_
              refine rn_iload dX0_takeTurned_157 rfl ?_
              refine rn_callVq (st := []) dX0_takeTurned_159 cf_0_64 (c_X0_put hd va vb (by omega) (by omega) (decide_eq_true (by omega)) _) (by decide) hd.1 hd.2.1 rfl rfl (Nat.le_of_ble_eq_true rfl) ?_
              refine rn_iinc (v := nI (i + 2)) (ls' := [some (.ref a), some (.ref a0), some (.int (nI 1)), some (.int (nI 0)), some (.int (nI 1)), some (.int (nI j)), some (.int (nI (i + 2))), some (.int (I q0 (8 * j + i / 2))), some (.int (nI (2 * h - j))), some (.int (nI i)), some (.int ((nI 3) - (I q0 (8 * j + i / 2))))]) dX0_takeTurned_162 rfl (nI_add _ 2) (by decide) rfl rfl ?_
              refine rn_goto (tgt := 72) dX0_takeTurned_165 (by decide) ?_
              refine rn_ls (ls' := [some (.ref a), some (.ref a0), some (.int (nI 1)), some (.int (nI 0)), some (.int (nI 1)), some (.int (nI j)), some (.int (nI (i + 2))), none, none, none, none]) rfl (fun k x h => by rcases k with _ | _ | _ | _ | _ | _ | _ | _ | _ | _ | _ | k <;> first | exact h | (simp at h)) ?_
              rw [rowP_c c_80, List.cons_append, List.foldl_cons, show (ttS q q0 w h 1 0) I (i, j) = (am_up I q (8 * (i) + (2 * h - j) / 2) ((nI 3) - (I q0 (8 * j + i / 2)))) from (by simp [ttS, tval, trow, tcol, tflp, twid, c_122])]
              exact ihi (i + 2) (by show 2 * w - (i + 2) < 2 * w - i; omega) _ (by rw [am_up_a _ _ hd.ne]; exact va) (by rw [am_up_a _ _ hd.ne]; exact vb) (by rw [am_up_a _ _ hx]; exact vc) (by rw [am_up_a _ _ hx]; exact vd) (by omega)
            · exact absurd c_138 (by decide)
    intro I va vb vc vd
    refine rn_iload dX0_takeTurned_53 rfl ?_
    refine rn_iconst (v := nI 2) dX0_takeTurned_55 (by decide) ?_
    refine rn_aload_n dX0_takeTurned_56 rfl rfl ?_
    refine rn_getI dX0_takeTurned_57 fd_0_15 hd0.1 hd0.2.1 rfl ?_
    refine rn_top (y := nI h) (vd) ?_
    refine rn_imul dX0_takeTurned_60 ?_
    refine rn_top (pk_mul _ _) ?_
    refine rn_icmp_geN (tgt := 174) dX0_takeTurned_61 (by decide) (by omega) (by omega) (fun c_61 => ?_) (fun c_61 => ?_)
    · refine rn_return dX0_takeTurned_174 rfl ?_
      rw [rowsP_n c_61]
      exact ⟨rfl, rfl, rfl⟩
    · refine rn_iconst (v := nI 1) dX0_takeTurned_64 (by decide) ?_
      refine rn_iload dX0_takeTurned_65 rfl ?_
      refine rn_iconst (v := nI 1) dX0_takeTurned_67 (by decide) ?_
      refine rn_iand dX0_takeTurned_68 ?_
      refine rn_top (z_nand (by omega)) ?_
      refine rn_iadd dX0_takeTurned_69 ?_
      refine rn_top (nI_add _ _) ?_
      refine rn_istore (ls' := [some (.ref a), some (.ref a0), some (.int (nI 1)), some (.int (nI 0)), some (.int (nI 1)), some (.int (nI j)), some (.int (nI (1 + (j % 2)))), none, none, none, none]) dX0_takeTurned_70 (by decide) rfl rfl ?_
      rw [rowsP_c c_61]
      exact LI c_61 (1 + j % 2) I va vb vc vd (by omega)
  refine am_mt ⟨by decide +kernel, rfl⟩ (Nat.le_of_ble_eq_true rfl) rfl ?_
  refine rn_iload_n dX0_takeTurned_0 rfl rfl ?_
  refine rn_iconst (v := nI 1) dX0_takeTurned_1 (by decide) ?_
  refine rn_iand dX0_takeTurned_2 ?_
  refine rn_top (y := nI 1) (by decide) ?_
  refine rn_iconst (v := nI 1) dX0_takeTurned_3 (by decide) ?_
  refine rn_icmp_neN (tgt := 11) dX0_takeTurned_4 (by decide) (by omega) (by omega) (fun c_4 => ?_) (fun c_4 => ?_)
  · exact absurd c_4 (by decide)
  · refine rn_iconst (v := nI 1) dX0_takeTurned_7 (by decide) ?_
    refine rn_goto (tgt := 12) dX0_takeTurned_8 (by decide) ?_
    refine rn_istore (ls' := [some (.ref a), some (.ref a0), some (.int (nI 1)), some (.int (nI 0)), some (.int (nI 1)), none, none, none, none, none, none]) dX0_takeTurned_12 (by decide) rfl rfl ?_
    refine rn_aload_n dX0_takeTurned_14 rfl rfl ?_
    refine rn_iload dX0_takeTurned_15 rfl ?_
    refine rn_if_eqN (tgt := 27) dX0_takeTurned_17 (by decide) (by omega) (fun c_17 => ?_) (fun c_17 => ?_)
    · exact absurd c_17 (by decide)
    · refine rn_aload_n dX0_takeTurned_20 rfl rfl ?_
      refine rn_getI dX0_takeTurned_21 fd_0_15 hd0.1 hd0.2.1 rfl ?_
      refine rn_top (y := nI h) (vd) ?_
      refine rn_goto (tgt := 31) dX0_takeTurned_24 (by decide) ?_
      refine rn_iload dX0_takeTurned_31 rfl ?_
      refine rn_if_eqN (tgt := 43) dX0_takeTurned_33 (by decide) (by omega) (fun c_33 => ?_) (fun c_33 => ?_)
      · exact absurd c_33 (by decide)
      · refine rn_aload_n dX0_takeTurned_36 rfl rfl ?_
        refine rn_getI dX0_takeTurned_37 fd_0_9 hd0.1 hd0.2.1 rfl ?_
        refine rn_top (y := nI w) (vc) ?_
        refine rn_goto (tgt := 47) dX0_takeTurned_40 (by decide) ?_
        refine rn_callVq (st := []) dX0_takeTurned_47 cf_0_50 (c_X0_clear hd (w := h) (h := w) (by omega) (by omega) (by omega) (by omega)) (by decide) hd.1 hd.2.1 rfl rfl (Nat.le_of_ble_eq_true rfl) ?_
        refine rn_iconst (v := nI 1) dX0_takeTurned_50 (by decide) ?_
        refine rn_istore (ls' := [some (.ref a), some (.ref a0), some (.int (nI 1)), some (.int (nI 0)), some (.int (nI 1)), some (.int (nI 1)), none, none, none, none, none]) dX0_takeTurned_51 (by decide) rfl rfl ?_
        exact LJ 1 (by omega) (by omega) _ (dr_clr_w I hd.ne).1 (dr_clr_w I hd.ne).2 (by rw [dr_clr_o I hne hx]; exact vc) (by rw [dr_clr_o I hne hx]; exact vd)
set_option maxHeartbeats 1000000 in
set_option maxRecDepth 100000 in
theorem c_X0_takeTurned_11 {S : am_S} {a q a0 q0 w h : Nat} (hd : am_dr S a q) (hd0 : am_dr S a0 q0) (hne : a0 ≠ a) (hq : q0 ≠ q) (w1 : 1 ≤ w) (w8 : w ≤ 8) (h1 : 1 ≤ h) (h8 : h ≤ 8) {I : am_I} (vc : I a0 0 = nI w) (vd : I a0 1 = nI h) : am_Mt 2 Y_X0_takeTurned (0, 0) [.ref a, .ref a0, .int (nI 1), .int (nI 1)] S I (am_q none S (List.foldl (ttS q q0 w h 1 1) (dr_clr I a q h w) (pts w h))) := by
  have hx := hd.ne2 hd0
  have LJ : ∀ j, 1 ≤ j → j ≤ 2 * h → ∀ I, I a 0 = nI h → I a 1 = nI w → I a0 0 = nI w → I a0 1 = nI h → am_Rn 2 Y_X0_takeTurned (0, 0) 53 [some (.ref a), some (.ref a0), some (.int (nI 1)), some (.int (nI 1)), some (.int (nI 1)), some (.int (nI j)), none, none, none, none, none] [] S I (am_q none S (List.foldl (ttS q q0 w h 1 1) I (rowsP w h j))) := by
    intro j hj1 hj2
    revert hj1
    refine am_loop (P := fun j => 1 ≤ j → ∀ I, I a 0 = nI h → I a 1 = nI w → I a0 0 = nI w → I a0 1 = nI h → am_Rn 2 Y_X0_takeTurned (0, 0) 53 [some (.ref a), some (.ref a0), some (.int (nI 1)), some (.int (nI 1)), some (.int (nI 1)), some (.int (nI j)), none, none, none, none, none] [] S I (am_q none S (List.foldl (ttS q q0 w h 1 1) I (rowsP w h j)))) (2 * h) ?_ j hj2
    clear hj2 j
    intro j hj2 ihj0 hj1
    have ihj : j < 2 * h → _ := fun hl => ihj0 hl (by omega)
    have LI : j < 2 * h → ∀ i, ∀ I, I a 0 = nI h → I a 1 = nI w → I a0 0 = nI w → I a0 1 = nI h → (1 ≤ i ∧ (i + j) % 2 = 1 ∧ i ≤ 2 * w + 1) → am_Rn 2 Y_X0_takeTurned (0, 0) 72 [some (.ref a), some (.ref a0), some (.int (nI 1)), some (.int (nI 1)), some (.int (nI 1)), some (.int (nI j)), some (.int (nI i)), none, none, none, none] [] S I (am_q none S (List.foldl (ttS q q0 w h 1 1) I (rowP w j i ++ rowsP w h (j + 1)))) := by
      intro c_61
      refine am_wf (fun i => 2 * w - i) ?_
      intro i ihi I va vb vc vd hip
      refine rn_iload dX0_takeTurned_72 rfl ?_
      refine rn_iconst (v := nI 2) dX0_takeTurned_74 (by decide) ?_
      refine rn_aload_n dX0_takeTurned_75 rfl rfl ?_
      refine rn_getI dX0_takeTurned_76 fd_0_9 hd0.1 hd0.2.1 rfl ?_
      refine rn_top (y := nI w) (vc) ?_
      refine rn_imul dX0_takeTurned_79 ?_
      refine rn_top (pk_mul _ _) ?_
      refine rn_icmp_geN (tgt := 168) dX0_takeTurned_80 (by decide) (by omega) (by omega) (fun c_80 => ?_) (fun c_80 => ?_)
      · refine rn_iinc (v := nI (j + 1)) (ls' := [some (.ref a), some (.ref a0), some (.int (nI 1)), some (.int (nI 1)), some (.int (nI 1)), some (.int (nI (j + 1))), some (.int (nI i)), none, none, none, none]) dX0_takeTurned_168 rfl (nI_add _ 1) (by decide) rfl rfl ?_
        refine rn_goto (tgt := 53) dX0_takeTurned_171 (by decide) ?_
        refine rn_ls (ls' := [some (.ref a), some (.ref a0), some (.int (nI 1)), some (.int (nI 1)), some (.int (nI 1)), some (.int (nI (j + 1))), none, none, none, none, none]) rfl (fun k x h => by rcases k with _ | _ | _ | _ | _ | _ | _ | _ | _ | _ | _ | k <;> first | exact h | (simp at h)) ?_
        rw [rowP_n c_80, List.nil_append]
        exact ihj c_61 I va vb vc vd
      · refine rn_aload_n dX0_takeTurned_83 rfl rfl ?_
        refine rn_iload dX0_takeTurned_84 rfl ?_
        refine rn_iload dX0_takeTurned_86 rfl ?_
        refine rn_callVq (st := []) dX0_takeTurned_88 cf_0_54 (c_X0_mirrorAt hd0 vc vd w8 h8 (decide_eq_true (by omega))) (by decide) hd0.1 hd0.2.1 rfl rfl (Nat.le_of_ble_eq_true rfl) ?_
        refine rn_istore (ls' := [some (.ref a), some (.ref a0), some (.int (nI 1)), some (.int (nI 1)), some (.int (nI 1)), some (.int (nI j)), some (.int (nI i)), some (.int (I q0 (8 * j + i / 2))), none, none, none]) dX0_takeTurned_91 (by decide) rfl rfl ?_
        refine rn_aload_n dX0_takeTurned_93 rfl rfl ?_
        refine rn_iload_n dX0_takeTurned_94 rfl rfl ?_
        refine rn_iload dX0_takeTurned_95 rfl ?_
        refine rn_iload dX0_takeTurned_97 rfl ?_
        refine rn_callSq (st := []) dX0_takeTurned_99 cf_0_57 (c_X0_turnedColumn hd0 vc vd (t := 1) (by decide) (by omega) (by omega)) (by decide) rfl rfl (Nat.le_of_ble_eq_true rfl) ?_
        refine rn_istore (ls' := [some (.ref a), some (.ref a0), some (.int (nI 1)), some (.int (nI 1)), some (.int (nI 1)), some (.int (nI j)), some (.int (nI i)), some (.int (I q0 (8 * j + i / 2))), some (.int (nI (2 * h - j))), none, none]) dX0_takeTurned_102 (by decide) rfl rfl ?_
        refine rn_aload_n dX0_takeTurned_104 rfl rfl ?_
        refine rn_iload_n dX0_takeTurned_105 rfl rfl ?_
        refine rn_iload dX0_takeTurned_106 rfl ?_
        refine rn_iload dX0_takeTurned_108 rfl ?_
        refine rn_callSq (st := []) dX0_takeTurned_110 cf_0_61 (c_X0_turnedRow hd0 vc vd (t := 1) (by decide) (by omega) (by omega)) (by decide) rfl rfl (Nat.le_of_ble_eq_true rfl) ?_
        refine rn_istore (ls' := [some (.ref a), some (.ref a0), some (.int (nI 1)), some (.int (nI 1)), some (.int (nI 1)), some (.int (nI j)), some (.int (nI i)), some (.int (I q0 (8 * j + i / 2))), some (.int (nI (2 * h - j))), some (.int (nI i)), none]) dX0_takeTurned_113 (by decide) rfl rfl ?_
        refine rn_iload dX0_takeTurned_115 rfl ?_
        refine rn_if_eqN (tgt := 132) dX0_takeTurned_117 (by decide) (by omega) (fun c_117 => ?_) (fun c_117 => ?_)
        · exact absurd c_117 (by decide)
        · refine rn_iload dX0_takeTurned_120 rfl ?_
          refine rn_if_eq (tgt := 132) dX0_takeTurned_122 (by decide) (fun c_122 => ?_) (fun c_122 => ?_)
          · refine rn_iload dX0_takeTurned_132 rfl ?_
            refine rn_istore (ls' := [some (.ref a), some (.ref a0), some (.int (nI 1)), some (.int (nI 1)), some (.int (nI 1)), some (.int (nI j)), some (.int (nI i)), some (.int (I q0 (8 * j + i / 2))), some (.int (nI (2 * h - j))), some (.int (nI i)), some (.int (I q0 (8 * j + i / 2)))]) dX0_takeTurned_134 (by decide) rfl rfl ?_
            refine rn_aload_n dX0_takeTurned_136 rfl rfl ?_
            refine rn_iload_n dX0_takeTurned_137 rfl rfl ?_
            refine rn_if_eqN (tgt := 153) dX0_takeTurned_138 (by decide) (by omega) (fun c_138 => ?_) (fun c_138 => ?_)
            · exact absurd c_138 (by decide)
            · refine rn_iconst (v := nI 2) dX0_takeTurned_141 (by decide) ?_
              refine rn_aload_n dX0_takeTurned_142 rfl rfl ?_
              refine rn_getI dX0_takeTurned_143 fd_0_9 hd.1 hd.2.1 rfl ?_
              refine rn_top (y := nI h) (va) ?_
              refine rn_imul dX0_takeTurned_146 ?_
              refine rn_top (pk_mul _ _) ?_
              refine rn_iload dX0_takeTurned_147 rfl ?_
              refine rn_isub dX0_takeTurned_149 ?_
              refine rn_top (pk_sub (by omega)) ?_
              refine rn_goto (tgt := 155) dX0_takeTurned_150 (by decide) ?_
              refine rn_iload dX0_takeTurned_155 rfl ?_
              refine rn_iload dX0_takeTurned_157 rfl ?_
              refine rn_callVq (st := []) dX0_takeTurned_159 cf_0_64 (c_X0_put hd va vb (by omega) (by omega) (decide_eq_true (by omega)) _) (by decide) hd.1 hd.2.1 rfl rfl (Nat.le_of_ble_eq_true rfl) ?_
              refine rn_iinc (v := nI (i + 2)) (ls' := [some (.ref a), some (.ref a0), some (.int (nI 1)), some (.int (nI 1)), some (.int (nI 1)), some (.int (nI j)), some (.int (nI (i + 2))), some (.int (I q0 (8 * j + i / 2))), some (.int (nI (2 * h - j))), some (.int (nI i)), some (.int (I q0 (8 * j + i / 2)))]) dX0_takeTurned_162 rfl (nI_add _ 2) (by decide) rfl rfl ?_
              refine rn_goto (tgt := 72) dX0_takeTurned_165 (by decide) ?_
              refine rn_ls (ls' := [some (.ref a), some (.ref a0), some (.int (nI 1)), some (.int (nI 1)), some (.int (nI 1)), some (.int (nI j)), some (.int (nI (i + 2))), none, none, none, none]) rfl (fun k x h => by rcases k with _ | _ | _ | _ | _ | _ | _ | _ | _ | _ | _ | k <;> first | exact h | (simp at h)) ?_
              rw [rowP_c c_80, List.cons_append, List.foldl_cons, show (ttS q q0 w h 1 1) I (i, j) = (am_up I q (8 * (i) + ((2 * h) - (2 * h - j)) / 2) (I q0 (8 * j + i / 2))) from (by simp [ttS, tval, trow, tcol, tflp, twid, c_122])]
              exact ihi (i + 2) (by show 2 * w - (i + 2) < 2 * w - i; omega) _ (by rw [am_up_a _ _ hd.ne]; exact va) (by rw [am_up_a _ _ hd.ne]; exact vb) (by rw [am_up_a _ _ hx]; exact vc) (by rw [am_up_a _ _ hx]; exact vd) (by omega)
          · refine rn_iconst (v := nI 3) dX0_takeTurned_125 (by decide) ?_
            refine rn_iload dX0_takeTurned_126 rfl ?_
            refine rn_isub dX0_takeTurned_128 ?_
            refine rn_goto (tgt := 134) dX0_takeTurned_129 (by decide) ?_
            refine rn_istore (ls' := [some (.ref a), some (.ref a0), some (.int (nI 1)), some (.int (nI 1)), some (.int (nI 1)), some (.int (nI j)), some (.int (nI i)), some (.int (I q0 (8 * j + i / 2))), some (.int (nI (2 * h - j))), some (.int (nI i)), some (.int ((nI 3) - (I q0 (8 * j + i / 2))))]) dX0_takeTurned_134 (by decide) rfl rfl ?_
            refine rn_aload_n dX0_takeTurned_136 rfl rfl ?_
            refine rn_iload_n dX0_takeTurned_137 rfl rfl ?_
            refine rn_if_eqN (tgt := 153) dX0_takeTurned_138 (by decide) (by omega) (fun c_138 => ?_) (fun c_138 => ?_)
            · exact absurd c_138 (by decide)
            · refine rn_iconst (v := nI 2) dX0_takeTurned_141 (by decide) ?_
              refine rn_aload_n dX0_takeTurned_142 rfl rfl ?_
              refine rn_getI dX0_takeTurned_143 fd_0_9 hd.1 hd.2.1 rfl ?_
              refine rn_top (y := nI h) (va) ?_
              refine rn_imul dX0_takeTurned_146 ?_
              refine rn_top (pk_mul _ _) ?_
              refine rn_iload dX0_takeTurned_147 rfl ?_
              refine rn_isub dX0_takeTurned_149 ?_
              refine rn_top (pk_sub (by omega)) ?_
              refine rn_goto (tgt := 155) dX0_takeTurned_150 (by decide) ?_
              refine rn_iload dX0_takeTurned_155 rfl ?_
              refine rn_iload dX0_takeTurned_157 rfl ?_
              refine rn_callVq (st := []) dX0_takeTurned_159 cf_0_64 (c_X0_put hd va vb (by omega) (by omega) (decide_eq_true (by omega)) _) (by decide) hd.1 hd.2.1 rfl rfl (Nat.le_of_ble_eq_true rfl) ?_
              refine rn_iinc (v := nI (i + 2)) (ls' := [some (.ref a), some (.ref a0), some (.int (nI 1)), some (.int (nI 1)), some (.int (nI 1)), some (.int (nI j)), some (.int (nI (i + 2))), some (.int (I q0 (8 * j + i / 2))), some (.int (nI (2 * h - j))), some (.int (nI i)), some (.int ((nI 3) - (I q0 (8 * j + i / 2))))]) dX0_takeTurned_162 rfl (nI_add _ 2) (by decide) rfl rfl ?_
              refine rn_goto (tgt := 72) dX0_takeTurned_165 (by decide) ?_
              refine rn_ls (ls' := [some (.ref a), some (.ref a0), some (.int (nI 1)), some (.int (nI 1)), some (.int (nI 1)), some (.int (nI j)), some (.int (nI (i + 2))), none, none, none, none]) rfl (fun k x h => by rcases k with _ | _ | _ | _ | _ | _ | _ | _ | _ | _ | _ | k <;> first | exact h | (simp at h)) ?_
              rw [rowP_c c_80, List.cons_append, List.foldl_cons, show (ttS q q0 w h 1 1) I (i, j) = (am_up I q (8 * (i) + ((2 * h) - (2 * h - j)) / 2) ((nI 3) - (I q0 (8 * j + i / 2)))) from (by simp [ttS, tval, trow, tcol, tflp, twid, c_122])]
              exact ihi (i + 2) (by show 2 * w - (i + 2) < 2 * w - i; omega) _ (by rw [am_up_a _ _ hd.ne]; exact va) (by rw [am_up_a _ _ hd.ne]; exact vb) (by rw [am_up_a _ _ hx]; exact vc) (by rw [am_up_a _ _ hx]; exact vd) (by omega)
    intro I va vb vc vd
    refine rn_iload dX0_takeTurned_53 rfl ?_
    refine rn_iconst (v := nI 2) dX0_takeTurned_55 (by decide) ?_
    refine rn_aload_n dX0_takeTurned_56 rfl rfl ?_
    refine rn_getI dX0_takeTurned_57 fd_0_15 hd0.1 hd0.2.1 rfl ?_
    refine rn_top (y := nI h) (vd) ?_
    refine rn_imul dX0_takeTurned_60 ?_
    refine rn_top (pk_mul _ _) ?_
    refine rn_icmp_geN (tgt := 174) dX0_takeTurned_61 (by decide) (by omega) (by omega) (fun c_61 => ?_) (fun c_61 => ?_)
    · refine rn_return dX0_takeTurned_174 rfl ?_
      rw [rowsP_n c_61]
      exact ⟨rfl, rfl, rfl⟩
    · refine rn_iconst (v := nI 1) dX0_takeTurned_64 (by decide) ?_
      refine rn_iload dX0_takeTurned_65 rfl ?_
      refine rn_iconst (v := nI 1) dX0_takeTurned_67 (by decide) ?_
      refine rn_iand dX0_takeTurned_68 ?_
      refine rn_top (z_nand (by omega)) ?_
      refine rn_iadd dX0_takeTurned_69 ?_
      refine rn_top (nI_add _ _) ?_
      refine rn_istore (ls' := [some (.ref a), some (.ref a0), some (.int (nI 1)), some (.int (nI 1)), some (.int (nI 1)), some (.int (nI j)), some (.int (nI (1 + (j % 2)))), none, none, none, none]) dX0_takeTurned_70 (by decide) rfl rfl ?_
      rw [rowsP_c c_61]
      exact LI c_61 (1 + j % 2) I va vb vc vd (by omega)
  refine am_mt ⟨by decide +kernel, rfl⟩ (Nat.le_of_ble_eq_true rfl) rfl ?_
  refine rn_iload_n dX0_takeTurned_0 rfl rfl ?_
  refine rn_iconst (v := nI 1) dX0_takeTurned_1 (by decide) ?_
  refine rn_iand dX0_takeTurned_2 ?_
  refine rn_top (y := nI 1) (by decide) ?_
  refine rn_iconst (v := nI 1) dX0_takeTurned_3 (by decide) ?_
  refine rn_icmp_neN (tgt := 11) dX0_takeTurned_4 (by decide) (by omega) (by omega) (fun c_4 => ?_) (fun c_4 => ?_)
  · exact absurd c_4 (by decide)
  · refine rn_iconst (v := nI 1) dX0_takeTurned_7 (by decide) ?_
    refine rn_goto (tgt := 12) dX0_takeTurned_8 (by decide) ?_
    refine rn_istore (ls' := [some (.ref a), some (.ref a0), some (.int (nI 1)), some (.int (nI 1)), some (.int (nI 1)), none, none, none, none, none, none]) dX0_takeTurned_12 (by decide) rfl rfl ?_
    refine rn_aload_n dX0_takeTurned_14 rfl rfl ?_
    refine rn_iload dX0_takeTurned_15 rfl ?_
    refine rn_if_eqN (tgt := 27) dX0_takeTurned_17 (by decide) (by omega) (fun c_17 => ?_) (fun c_17 => ?_)
    · exact absurd c_17 (by decide)
    · refine rn_aload_n dX0_takeTurned_20 rfl rfl ?_
      refine rn_getI dX0_takeTurned_21 fd_0_15 hd0.1 hd0.2.1 rfl ?_
      refine rn_top (y := nI h) (vd) ?_
      refine rn_goto (tgt := 31) dX0_takeTurned_24 (by decide) ?_
      refine rn_iload dX0_takeTurned_31 rfl ?_
      refine rn_if_eqN (tgt := 43) dX0_takeTurned_33 (by decide) (by omega) (fun c_33 => ?_) (fun c_33 => ?_)
      · exact absurd c_33 (by decide)
      · refine rn_aload_n dX0_takeTurned_36 rfl rfl ?_
        refine rn_getI dX0_takeTurned_37 fd_0_9 hd0.1 hd0.2.1 rfl ?_
        refine rn_top (y := nI w) (vc) ?_
        refine rn_goto (tgt := 47) dX0_takeTurned_40 (by decide) ?_
        refine rn_callVq (st := []) dX0_takeTurned_47 cf_0_50 (c_X0_clear hd (w := h) (h := w) (by omega) (by omega) (by omega) (by omega)) (by decide) hd.1 hd.2.1 rfl rfl (Nat.le_of_ble_eq_true rfl) ?_
        refine rn_iconst (v := nI 1) dX0_takeTurned_50 (by decide) ?_
        refine rn_istore (ls' := [some (.ref a), some (.ref a0), some (.int (nI 1)), some (.int (nI 1)), some (.int (nI 1)), some (.int (nI 1)), none, none, none, none, none]) dX0_takeTurned_51 (by decide) rfl rfl ?_
        exact LJ 1 (by omega) (by omega) _ (dr_clr_w I hd.ne).1 (dr_clr_w I hd.ne).2 (by rw [dr_clr_o I hne hx]; exact vc) (by rw [dr_clr_o I hne hx]; exact vd)
set_option maxHeartbeats 1000000 in
set_option maxRecDepth 100000 in
theorem c_X0_takeTurned_20 {S : am_S} {a q a0 q0 w h : Nat} (hd : am_dr S a q) (hd0 : am_dr S a0 q0) (hne : a0 ≠ a) (hq : q0 ≠ q) (w1 : 1 ≤ w) (w8 : w ≤ 8) (h1 : 1 ≤ h) (h8 : h ≤ 8) {I : am_I} (vc : I a0 0 = nI w) (vd : I a0 1 = nI h) : am_Mt 2 Y_X0_takeTurned (0, 0) [.ref a, .ref a0, .int (nI 2), .int (nI 0)] S I (am_q none S (List.foldl (ttS q q0 w h 2 0) (dr_clr I a q w h) (pts w h))) := by
  have hx := hd.ne2 hd0
  have LJ : ∀ j, 1 ≤ j → j ≤ 2 * h → ∀ I, I a 0 = nI w → I a 1 = nI h → I a0 0 = nI w → I a0 1 = nI h → am_Rn 2 Y_X0_takeTurned (0, 0) 53 [some (.ref a), some (.ref a0), some (.int (nI 2)), some (.int (nI 0)), some (.int (nI 0)), some (.int (nI j)), none, none, none, none, none] [] S I (am_q none S (List.foldl (ttS q q0 w h 2 0) I (rowsP w h j))) := by
    intro j hj1 hj2
    revert hj1
    refine am_loop (P := fun j => 1 ≤ j → ∀ I, I a 0 = nI w → I a 1 = nI h → I a0 0 = nI w → I a0 1 = nI h → am_Rn 2 Y_X0_takeTurned (0, 0) 53 [some (.ref a), some (.ref a0), some (.int (nI 2)), some (.int (nI 0)), some (.int (nI 0)), some (.int (nI j)), none, none, none, none, none] [] S I (am_q none S (List.foldl (ttS q q0 w h 2 0) I (rowsP w h j)))) (2 * h) ?_ j hj2
    clear hj2 j
    intro j hj2 ihj0 hj1
    have ihj : j < 2 * h → _ := fun hl => ihj0 hl (by omega)
    have LI : j < 2 * h → ∀ i, ∀ I, I a 0 = nI w → I a 1 = nI h → I a0 0 = nI w → I a0 1 = nI h → (1 ≤ i ∧ (i + j) % 2 = 1 ∧ i ≤ 2 * w + 1) → am_Rn 2 Y_X0_takeTurned (0, 0) 72 [some (.ref a), some (.ref a0), some (.int (nI 2)), some (.int (nI 0)), some (.int (nI 0)), some (.int (nI j)), some (.int (nI i)), none, none, none, none] [] S I (am_q none S (List.foldl (ttS q q0 w h 2 0) I (rowP w j i ++ rowsP w h (j + 1)))) := by
      intro c_61
      refine am_wf (fun i => 2 * w - i) ?_
      intro i ihi I va vb vc vd hip
      refine rn_iload dX0_takeTurned_72 rfl ?_
      refine rn_iconst (v := nI 2) dX0_takeTurned_74 (by decide) ?_
      refine rn_aload_n dX0_takeTurned_75 rfl rfl ?_
      refine rn_getI dX0_takeTurned_76 fd_0_9 hd0.1 hd0.2.1 rfl ?_
      refine rn_top (y := nI w) (vc) ?_
      refine rn_imul dX0_takeTurned_79 ?_
      refine rn_top (pk_mul _ _) ?_
      refine rn_icmp_geN (tgt := 168) dX0_takeTurned_80 (by decide) (by omega) (by omega) (fun c_80 => ?_) (fun c_80 => ?_)
      · refine rn_iinc (v := nI (j + 1)) (ls' := [some (.ref a), some (.ref a0), some (.int (nI 2)), some (.int (nI 0)), some (.int (nI 0)), some (.int (nI (j + 1))), some (.int (nI i)), none, none, none, none]) dX0_takeTurned_168 rfl (nI_add _ 1) (by decide) rfl rfl ?_
        refine rn_goto (tgt := 53) dX0_takeTurned_171 (by decide) ?_
        refine rn_ls (ls' := [some (.ref a), some (.ref a0), some (.int (nI 2)), some (.int (nI 0)), some (.int (nI 0)), some (.int (nI (j + 1))), none, none, none, none, none]) rfl (fun k x h => by rcases k with _ | _ | _ | _ | _ | _ | _ | _ | _ | _ | _ | k <;> first | exact h | (simp at h)) ?_
        rw [rowP_n c_80, List.nil_append]
        exact ihj c_61 I va vb vc vd
      · refine rn_aload_n dX0_takeTurned_83 rfl rfl ?_
        refine rn_iload dX0_takeTurned_84 rfl ?_
        refine rn_iload dX0_takeTurned_86 rfl ?_
        refine rn_callVq (st := []) dX0_takeTurned_88 cf_0_54 (c_X0_mirrorAt hd0 vc vd w8 h8 (decide_eq_true (by omega))) (by decide) hd0.1 hd0.2.1 rfl rfl (Nat.le_of_ble_eq_true rfl) ?_
        refine rn_istore (ls' := [some (.ref a), some (.ref a0), some (.int (nI 2)), some (.int (nI 0)), some (.int (nI 0)), some (.int (nI j)), some (.int (nI i)), some (.int (I q0 (8 * j + i / 2))), none, none, none]) dX0_takeTurned_91 (by decide) rfl rfl ?_
        refine rn_aload_n dX0_takeTurned_93 rfl rfl ?_
        refine rn_iload_n dX0_takeTurned_94 rfl rfl ?_
        refine rn_iload dX0_takeTurned_95 rfl ?_
        refine rn_iload dX0_takeTurned_97 rfl ?_
        refine rn_callSq (st := []) dX0_takeTurned_99 cf_0_57 (c_X0_turnedColumn hd0 vc vd (t := 2) (by decide) (by omega) (by omega)) (by decide) rfl rfl (Nat.le_of_ble_eq_true rfl) ?_
        refine rn_istore (ls' := [some (.ref a), some (.ref a0), some (.int (nI 2)), some (.int (nI 0)), some (.int (nI 0)), some (.int (nI j)), some (.int (nI i)), some (.int (I q0 (8 * j + i / 2))), some (.int (nI (2 * w - i))), none, none]) dX0_takeTurned_102 (by decide) rfl rfl ?_
        refine rn_aload_n dX0_takeTurned_104 rfl rfl ?_
        refine rn_iload_n dX0_takeTurned_105 rfl rfl ?_
        refine rn_iload dX0_takeTurned_106 rfl ?_
        refine rn_iload dX0_takeTurned_108 rfl ?_
        refine rn_callSq (st := []) dX0_takeTurned_110 cf_0_61 (c_X0_turnedRow hd0 vc vd (t := 2) (by decide) (by omega) (by omega)) (by decide) rfl rfl (Nat.le_of_ble_eq_true rfl) ?_
        refine rn_istore (ls' := [some (.ref a), some (.ref a0), some (.int (nI 2)), some (.int (nI 0)), some (.int (nI 0)), some (.int (nI j)), some (.int (nI i)), some (.int (I q0 (8 * j + i / 2))), some (.int (nI (2 * w - i))), some (.int (nI (2 * h - j))), none]) dX0_takeTurned_113 (by decide) rfl rfl ?_
        refine rn_iload dX0_takeTurned_115 rfl ?_
        refine rn_if_eqN (tgt := 132) dX0_takeTurned_117 (by decide) (by omega) (fun c_117 => ?_) (fun c_117 => ?_)
        · refine rn_iload dX0_takeTurned_132 rfl ?_
          refine rn_istore (ls' := [some (.ref a), some (.ref a0), some (.int (nI 2)), some (.int (nI 0)), some (.int (nI 0)), some (.int (nI j)), some (.int (nI i)), some (.int (I q0 (8 * j + i / 2))), some (.int (nI (2 * w - i))), some (.int (nI (2 * h - j))), some (.int (I q0 (8 * j + i / 2)))]) dX0_takeTurned_134 (by decide) rfl rfl ?_
          refine rn_aload_n dX0_takeTurned_136 rfl rfl ?_
          refine rn_iload_n dX0_takeTurned_137 rfl rfl ?_
          refine rn_if_eqN (tgt := 153) dX0_takeTurned_138 (by decide) (by omega) (fun c_138 => ?_) (fun c_138 => ?_)
          · refine rn_iload dX0_takeTurned_153 rfl ?_
            refine rn_iload dX0_takeTurned_155 rfl ?_
            refine rn_iload dX0_takeTurned_157 rfl ?_
            refine rn_callVq (st := []) dX0_takeTurned_159 cf_0_64 (c_X0_put hd va vb (by omega) (by omega) (decide_eq_true (by omega)) _) (by decide) hd.1 hd.2.1 rfl rfl (Nat.le_of_ble_eq_true rfl) ?_
            refine rn_iinc (v := nI (i + 2)) (ls' := [some (.ref a), some (.ref a0), some (.int (nI 2)), some (.int (nI 0)), some (.int (nI 0)), some (.int (nI j)), some (.int (nI (i + 2))), some (.int (I q0 (8 * j + i / 2))), some (.int (nI (2 * w - i))), some (.int (nI (2 * h - j))), some (.int (I q0 (8 * j + i / 2)))]) dX0_takeTurned_162 rfl (nI_add _ 2) (by decide) rfl rfl ?_
            refine rn_goto (tgt := 72) dX0_takeTurned_165 (by decide) ?_
            refine rn_ls (ls' := [some (.ref a), some (.ref a0), some (.int (nI 2)), some (.int (nI 0)), some (.int (nI 0)), some (.int (nI j)), some (.int (nI (i + 2))), none, none, none, none]) rfl (fun k x h => by rcases k with _ | _ | _ | _ | _ | _ | _ | _ | _ | _ | _ | k <;> first | exact h | (simp at h)) ?_
            rw [rowP_c c_80, List.cons_append, List.foldl_cons, show (ttS q q0 w h 2 0) I (i, j) = (am_up I q (8 * (2 * h - j) + (2 * w - i) / 2) (I q0 (8 * j + i / 2))) from rfl]
            exact ihi (i + 2) (by show 2 * w - (i + 2) < 2 * w - i; omega) _ (by rw [am_up_a _ _ hd.ne]; exact va) (by rw [am_up_a _ _ hd.ne]; exact vb) (by rw [am_up_a _ _ hx]; exact vc) (by rw [am_up_a _ _ hx]; exact vd) (by omega)
          · exact absurd c_138 (by decide)
        · exact absurd c_117 (by decide)
    intro I va vb vc vd
    refine rn_iload dX0_takeTurned_53 rfl ?_
    refine rn_iconst (v := nI 2) dX0_takeTurned_55 (by decide) ?_
    refine rn_aload_n dX0_takeTurned_56 rfl rfl ?_
    refine rn_getI dX0_takeTurned_57 fd_0_15 hd0.1 hd0.2.1 rfl ?_
    refine rn_top (y := nI h) (vd) ?_
    refine rn_imul dX0_takeTurned_60 ?_
    refine rn_top (pk_mul _ _) ?_
    refine rn_icmp_geN (tgt := 174) dX0_takeTurned_61 (by decide) (by omega) (by omega) (fun c_61 => ?_) (fun c_61 => ?_)
    · refine rn_return dX0_takeTurned_174 rfl ?_
      rw [rowsP_n c_61]
      exact ⟨rfl, rfl, rfl⟩
    · refine rn_iconst (v := nI 1) dX0_takeTurned_64 (by decide) ?_
      refine rn_iload dX0_takeTurned_65 rfl ?_
      refine rn_iconst (v := nI 1) dX0_takeTurned_67 (by decide) ?_
      refine rn_iand dX0_takeTurned_68 ?_
      refine rn_top (z_nand (by omega)) ?_
      refine rn_iadd dX0_takeTurned_69 ?_
      refine rn_top (nI_add _ _) ?_
      refine rn_istore (ls' := [some (.ref a), some (.ref a0), some (.int (nI 2)), some (.int (nI 0)), some (.int (nI 0)), some (.int (nI j)), some (.int (nI (1 + (j % 2)))), none, none, none, none]) dX0_takeTurned_70 (by decide) rfl rfl ?_
      rw [rowsP_c c_61]
      exact LI c_61 (1 + j % 2) I va vb vc vd (by omega)
  refine am_mt ⟨by decide +kernel, rfl⟩ (Nat.le_of_ble_eq_true rfl) rfl ?_
  refine rn_iload_n dX0_takeTurned_0 rfl rfl ?_
  refine rn_iconst (v := nI 1) dX0_takeTurned_1 (by decide) ?_
  refine rn_iand dX0_takeTurned_2 ?_
  refine rn_top (y := nI 0) (by decide) ?_
  refine rn_iconst (v := nI 1) dX0_takeTurned_3 (by decide) ?_
  refine rn_icmp_neN (tgt := 11) dX0_takeTurned_4 (by decide) (by omega) (by omega) (fun c_4 => ?_) (fun c_4 => ?_)
  · refine rn_iconst (v := nI 0) dX0_takeTurned_11 (by decide) ?_
    refine rn_istore (ls' := [some (.ref a), some (.ref a0), some (.int (nI 2)), some (.int (nI 0)), some (.int (nI 0)), none, none, none, none, none, none]) dX0_takeTurned_12 (by decide) rfl rfl ?_
    refine rn_aload_n dX0_takeTurned_14 rfl rfl ?_
    refine rn_iload dX0_takeTurned_15 rfl ?_
    refine rn_if_eqN (tgt := 27) dX0_takeTurned_17 (by decide) (by omega) (fun c_17 => ?_) (fun c_17 => ?_)
    · refine rn_aload_n dX0_takeTurned_27 rfl rfl ?_
      refine rn_getI dX0_takeTurned_28 fd_0_9 hd0.1 hd0.2.1 rfl ?_
      refine rn_top (y := nI w) (vc) ?_
      refine rn_iload dX0_takeTurned_31 rfl ?_
      refine rn_if_eqN (tgt := 43) dX0_takeTurned_33 (by decide) (by omega) (fun c_33 => ?_) (fun c_33 => ?_)
      · refine rn_aload_n dX0_takeTurned_43 rfl rfl ?_
        refine rn_getI dX0_takeTurned_44 fd_0_15 hd0.1 hd0.2.1 rfl ?_
        refine rn_top (y := nI h) (vd) ?_
        refine rn_callVq (st := []) dX0_takeTurned_47 cf_0_50 (c_X0_clear hd (w := w) (h := h) (by omega) (by omega) (by omega) (by omega)) (by decide) hd.1 hd.2.1 rfl rfl (Nat.le_of_ble_eq_true rfl) ?_
        refine rn_iconst (v := nI 1) dX0_takeTurned_50 (by decide) ?_
        refine rn_istore (ls' := [some (.ref a), some (.ref a0), some (.int (nI 2)), some (.int (nI 0)), some (.int (nI 0)), some (.int (nI 1)), none, none, none, none, none]) dX0_takeTurned_51 (by decide) rfl rfl ?_
        exact LJ 1 (by omega) (by omega) _ (dr_clr_w I hd.ne).1 (dr_clr_w I hd.ne).2 (by rw [dr_clr_o I hne hx]; exact vc) (by rw [dr_clr_o I hne hx]; exact vd)
      · exact absurd c_33 (by decide)
    · exact absurd c_17 (by decide)
  · exact absurd c_4 (by decide)
set_option maxHeartbeats 1000000 in
set_option maxRecDepth 100000 in
theorem c_X0_takeTurned_21 {S : am_S} {a q a0 q0 w h : Nat} (hd : am_dr S a q) (hd0 : am_dr S a0 q0) (hne : a0 ≠ a) (hq : q0 ≠ q) (w1 : 1 ≤ w) (w8 : w ≤ 8) (h1 : 1 ≤ h) (h8 : h ≤ 8) {I : am_I} (vc : I a0 0 = nI w) (vd : I a0 1 = nI h) : am_Mt 2 Y_X0_takeTurned (0, 0) [.ref a, .ref a0, .int (nI 2), .int (nI 1)] S I (am_q none S (List.foldl (ttS q q0 w h 2 1) (dr_clr I a q w h) (pts w h))) := by
  have hx := hd.ne2 hd0
  have LJ : ∀ j, 1 ≤ j → j ≤ 2 * h → ∀ I, I a 0 = nI w → I a 1 = nI h → I a0 0 = nI w → I a0 1 = nI h → am_Rn 2 Y_X0_takeTurned (0, 0) 53 [some (.ref a), some (.ref a0), some (.int (nI 2)), some (.int (nI 1)), some (.int (nI 0)), some (.int (nI j)), none, none, none, none, none] [] S I (am_q none S (List.foldl (ttS q q0 w h 2 1) I (rowsP w h j))) := by
    intro j hj1 hj2
    revert hj1
    refine am_loop (P := fun j => 1 ≤ j → ∀ I, I a 0 = nI w → I a 1 = nI h → I a0 0 = nI w → I a0 1 = nI h → am_Rn 2 Y_X0_takeTurned (0, 0) 53 [some (.ref a), some (.ref a0), some (.int (nI 2)), some (.int (nI 1)), some (.int (nI 0)), some (.int (nI j)), none, none, none, none, none] [] S I (am_q none S (List.foldl (ttS q q0 w h 2 1) I (rowsP w h j)))) (2 * h) ?_ j hj2
    clear hj2 j
    intro j hj2 ihj0 hj1
    have ihj : j < 2 * h → _ := fun hl => ihj0 hl (by omega)
    have LI : j < 2 * h → ∀ i, ∀ I, I a 0 = nI w → I a 1 = nI h → I a0 0 = nI w → I a0 1 = nI h → (1 ≤ i ∧ (i + j) % 2 = 1 ∧ i ≤ 2 * w + 1) → am_Rn 2 Y_X0_takeTurned (0, 0) 72 [some (.ref a), some (.ref a0), some (.int (nI 2)), some (.int (nI 1)), some (.int (nI 0)), some (.int (nI j)), some (.int (nI i)), none, none, none, none] [] S I (am_q none S (List.foldl (ttS q q0 w h 2 1) I (rowP w j i ++ rowsP w h (j + 1)))) := by
      intro c_61
      refine am_wf (fun i => 2 * w - i) ?_
      intro i ihi I va vb vc vd hip
      refine rn_iload dX0_takeTurned_72 rfl ?_
      refine rn_iconst (v := nI 2) dX0_takeTurned_74 (by decide) ?_
      refine rn_aload_n dX0_takeTurned_75 rfl rfl ?_
      refine rn_getI dX0_takeTurned_76 fd_0_9 hd0.1 hd0.2.1 rfl ?_
      refine rn_top (y := nI w) (vc) ?_
      refine rn_imul dX0_takeTurned_79 ?_
      refine rn_top (pk_mul _ _) ?_
      refine rn_icmp_geN (tgt := 168) dX0_takeTurned_80 (by decide) (by omega) (by omega) (fun c_80 => ?_) (fun c_80 => ?_)
      · refine rn_iinc (v := nI (j + 1)) (ls' := [some (.ref a), some (.ref a0), some (.int (nI 2)), some (.int (nI 1)), some (.int (nI 0)), some (.int (nI (j + 1))), some (.int (nI i)), none, none, none, none]) dX0_takeTurned_168 rfl (nI_add _ 1) (by decide) rfl rfl ?_
        refine rn_goto (tgt := 53) dX0_takeTurned_171 (by decide) ?_
        refine rn_ls (ls' := [some (.ref a), some (.ref a0), some (.int (nI 2)), some (.int (nI 1)), some (.int (nI 0)), some (.int (nI (j + 1))), none, none, none, none, none]) rfl (fun k x h => by rcases k with _ | _ | _ | _ | _ | _ | _ | _ | _ | _ | _ | k <;> first | exact h | (simp at h)) ?_
        rw [rowP_n c_80, List.nil_append]
        exact ihj c_61 I va vb vc vd
      · refine rn_aload_n dX0_takeTurned_83 rfl rfl ?_
        refine rn_iload dX0_takeTurned_84 rfl ?_
        refine rn_iload dX0_takeTurned_86 rfl ?_
        refine rn_callVq (st := []) dX0_takeTurned_88 cf_0_54 (c_X0_mirrorAt hd0 vc vd w8 h8 (decide_eq_true (by omega))) (by decide) hd0.1 hd0.2.1 rfl rfl (Nat.le_of_ble_eq_true rfl) ?_
        refine rn_istore (ls' := [some (.ref a), some (.ref a0), some (.int (nI 2)), some (.int (nI 1)), some (.int (nI 0)), some (.int (nI j)), some (.int (nI i)), some (.int (I q0 (8 * j + i / 2))), none, none, none]) dX0_takeTurned_91 (by decide) rfl rfl ?_
        refine rn_aload_n dX0_takeTurned_93 rfl rfl ?_
        refine rn_iload_n dX0_takeTurned_94 rfl rfl ?_
        refine rn_iload dX0_takeTurned_95 rfl ?_
        refine rn_iload dX0_takeTurned_97 rfl ?_
        refine rn_callSq (st := []) dX0_takeTurned_99 cf_0_57 (c_X0_turnedColumn hd0 vc vd (t := 2) (by decide) (by omega) (by omega)) (by decide) rfl rfl (Nat.le_of_ble_eq_true rfl) ?_
        refine rn_istore (ls' := [some (.ref a), some (.ref a0), some (.int (nI 2)), some (.int (nI 1)), some (.int (nI 0)), some (.int (nI j)), some (.int (nI i)), some (.int (I q0 (8 * j + i / 2))), some (.int (nI (2 * w - i))), none, none]) dX0_takeTurned_102 (by decide) rfl rfl ?_
        refine rn_aload_n dX0_takeTurned_104 rfl rfl ?_
        refine rn_iload_n dX0_takeTurned_105 rfl rfl ?_
        refine rn_iload dX0_takeTurned_106 rfl ?_
        refine rn_iload dX0_takeTurned_108 rfl ?_
        refine rn_callSq (st := []) dX0_takeTurned_110 cf_0_61 (c_X0_turnedRow hd0 vc vd (t := 2) (by decide) (by omega) (by omega)) (by decide) rfl rfl (Nat.le_of_ble_eq_true rfl) ?_
        refine rn_istore (ls' := [some (.ref a), some (.ref a0), some (.int (nI 2)), some (.int (nI 1)), some (.int (nI 0)), some (.int (nI j)), some (.int (nI i)), some (.int (I q0 (8 * j + i / 2))), some (.int (nI (2 * w - i))), some (.int (nI (2 * h - j))), none]) dX0_takeTurned_113 (by decide) rfl rfl ?_
        refine rn_iload dX0_takeTurned_115 rfl ?_
        refine rn_if_eqN (tgt := 132) dX0_takeTurned_117 (by decide) (by omega) (fun c_117 => ?_) (fun c_117 => ?_)
        · refine rn_iload dX0_takeTurned_132 rfl ?_
          refine rn_istore (ls' := [some (.ref a), some (.ref a0), some (.int (nI 2)), some (.int (nI 1)), some (.int (nI 0)), some (.int (nI j)), some (.int (nI i)), some (.int (I q0 (8 * j + i / 2))), some (.int (nI (2 * w - i))), some (.int (nI (2 * h - j))), some (.int (I q0 (8 * j + i / 2)))]) dX0_takeTurned_134 (by decide) rfl rfl ?_
          refine rn_aload_n dX0_takeTurned_136 rfl rfl ?_
          refine rn_iload_n dX0_takeTurned_137 rfl rfl ?_
          refine rn_if_eqN (tgt := 153) dX0_takeTurned_138 (by decide) (by omega) (fun c_138 => ?_) (fun c_138 => ?_)
          · exact absurd c_138 (by decide)
          · refine rn_iconst (v := nI 2) dX0_takeTurned_141 (by decide) ?_
            refine rn_aload_n dX0_takeTurned_142 rfl rfl ?_
            refine rn_getI dX0_takeTurned_143 fd_0_9 hd.1 hd.2.1 rfl ?_
            refine rn_top (y := nI w) (va) ?_
            refine rn_imul dX0_takeTurned_146 ?_
            refine rn_top (pk_mul _ _) ?_
            refine rn_iload dX0_takeTurned_147 rfl ?_
            refine rn_isub dX0_takeTurned_149 ?_
            refine rn_top (pk_sub (by omega)) ?_
            refine rn_goto (tgt := 155) dX0_takeTurned_150 (by decide) ?_
            refine rn_iload dX0_takeTurned_155 rfl ?_
            refine rn_iload dX0_takeTurned_157 rfl ?_
            refine rn_callVq (st := []) dX0_takeTurned_159 cf_0_64 (c_X0_put hd va vb (by omega) (by omega) (decide_eq_true (by omega)) _) (by decide) hd.1 hd.2.1 rfl rfl (Nat.le_of_ble_eq_true rfl) ?_
            refine rn_iinc (v := nI (i + 2)) (ls' := [some (.ref a), some (.ref a0), some (.int (nI 2)), some (.int (nI 1)), some (.int (nI 0)), some (.int (nI j)), some (.int (nI (i + 2))), some (.int (I q0 (8 * j + i / 2))), some (.int (nI (2 * w - i))), some (.int (nI (2 * h - j))), some (.int (I q0 (8 * j + i / 2)))]) dX0_takeTurned_162 rfl (nI_add _ 2) (by decide) rfl rfl ?_
            refine rn_goto (tgt := 72) dX0_takeTurned_165 (by decide) ?_
            refine rn_ls (ls' := [some (.ref a), some (.ref a0), some (.int (nI 2)), some (.int (nI 1)), some (.int (nI 0)), some (.int (nI j)), some (.int (nI (i + 2))), none, none, none, none]) rfl (fun k x h => by rcases k with _ | _ | _ | _ | _ | _ | _ | _ | _ | _ | _ | k <;> first | exact h | (simp at h)) ?_
            rw [rowP_c c_80, List.cons_append, List.foldl_cons, show (ttS q q0 w h 2 1) I (i, j) = (am_up I q (8 * (2 * h - j) + ((2 * w) - (2 * w - i)) / 2) (I q0 (8 * j + i / 2))) from rfl]
            exact ihi (i + 2) (by show 2 * w - (i + 2) < 2 * w - i; omega) _ (by rw [am_up_a _ _ hd.ne]; exact va) (by rw [am_up_a _ _ hd.ne]; exact vb) (by rw [am_up_a _ _ hx]; exact vc) (by rw [am_up_a _ _ hx]; exact vd) (by omega)
        · exact absurd c_117 (by decide)
    intro I va vb vc vd
    refine rn_iload dX0_takeTurned_53 rfl ?_
    refine rn_iconst (v := nI 2) dX0_takeTurned_55 (by decide) ?_
    refine rn_aload_n dX0_takeTurned_56 rfl rfl ?_
    refine rn_getI dX0_takeTurned_57 fd_0_15 hd0.1 hd0.2.1 rfl ?_
    refine rn_top (y := nI h) (vd) ?_
    refine rn_imul dX0_takeTurned_60 ?_
    refine rn_top (pk_mul _ _) ?_
    refine rn_icmp_geN (tgt := 174) dX0_takeTurned_61 (by decide) (by omega) (by omega) (fun c_61 => ?_) (fun c_61 => ?_)
    · refine rn_return dX0_takeTurned_174 rfl ?_
      rw [rowsP_n c_61]
      exact ⟨rfl, rfl, rfl⟩
    · refine rn_iconst (v := nI 1) dX0_takeTurned_64 (by decide) ?_
      refine rn_iload dX0_takeTurned_65 rfl ?_
      refine rn_iconst (v := nI 1) dX0_takeTurned_67 (by decide) ?_
      refine rn_iand dX0_takeTurned_68 ?_
      refine rn_top (z_nand (by omega)) ?_
      refine rn_iadd dX0_takeTurned_69 ?_
      refine rn_top (nI_add _ _) ?_
      refine rn_istore (ls' := [some (.ref a), some (.ref a0), some (.int (nI 2)), some (.int (nI 1)), some (.int (nI 0)), some (.int (nI j)), some (.int (nI (1 + (j % 2)))), none, none, none, none]) dX0_takeTurned_70 (by decide) rfl rfl ?_
      rw [rowsP_c c_61]
      exact LI c_61 (1 + j % 2) I va vb vc vd (by omega)
  refine am_mt ⟨by decide +kernel, rfl⟩ (Nat.le_of_ble_eq_true rfl) rfl ?_
  refine rn_iload_n dX0_takeTurned_0 rfl rfl ?_
  refine rn_iconst (v := nI 1) dX0_takeTurned_1 (by decide) ?_
  refine rn_iand dX0_takeTurned_2 ?_
  refine rn_top (y := nI 0) (by decide) ?_
  refine rn_iconst (v := nI 1) dX0_takeTurned_3 (by decide) ?_
  refine rn_icmp_neN (tgt := 11) dX0_takeTurned_4 (by decide) (by omega) (by omega) (fun c_4 => ?_) (fun c_4 => ?_)
  · refine rn_iconst (v := nI 0) dX0_takeTurned_11 (by decide) ?_
    refine rn_istore (ls' := [some (.ref a), some (.ref a0), some (.int (nI 2)), some (.int (nI 1)), some (.int (nI 0)), none, none, none, none, none, none]) dX0_takeTurned_12 (by decide) rfl rfl ?_
    refine rn_aload_n dX0_takeTurned_14 rfl rfl ?_
    refine rn_iload dX0_takeTurned_15 rfl ?_
    refine rn_if_eqN (tgt := 27) dX0_takeTurned_17 (by decide) (by omega) (fun c_17 => ?_) (fun c_17 => ?_)
    · refine rn_aload_n dX0_takeTurned_27 rfl rfl ?_
      refine rn_getI dX0_takeTurned_28 fd_0_9 hd0.1 hd0.2.1 rfl ?_
      refine rn_top (y := nI w) (vc) ?_
      refine rn_iload dX0_takeTurned_31 rfl ?_
      refine rn_if_eqN (tgt := 43) dX0_takeTurned_33 (by decide) (by omega) (fun c_33 => ?_) (fun c_33 => ?_)
      · refine rn_aload_n dX0_takeTurned_43 rfl rfl ?_
        refine rn_getI dX0_takeTurned_44 fd_0_15 hd0.1 hd0.2.1 rfl ?_
        refine rn_top (y := nI h) (vd) ?_
        refine rn_callVq (st := []) dX0_takeTurned_47 cf_0_50 (c_X0_clear hd (w := w) (h := h) (by omega) (by omega) (by omega) (by omega)) (by decide) hd.1 hd.2.1 rfl rfl (Nat.le_of_ble_eq_true rfl) ?_
        refine rn_iconst (v := nI 1) dX0_takeTurned_50 (by decide) ?_
        refine rn_istore (ls' := [some (.ref a), some (.ref a0), some (.int (nI 2)), some (.int (nI 1)), some (.int (nI 0)), some (.int (nI 1)), none, none, none, none, none]) dX0_takeTurned_51 (by decide) rfl rfl ?_
        exact LJ 1 (by omega) (by omega) _ (dr_clr_w I hd.ne).1 (dr_clr_w I hd.ne).2 (by rw [dr_clr_o I hne hx]; exact vc) (by rw [dr_clr_o I hne hx]; exact vd)
      · exact absurd c_33 (by decide)
    · exact absurd c_17 (by decide)
  · exact absurd c_4 (by decide)
set_option maxHeartbeats 1000000 in
set_option maxRecDepth 100000 in
theorem c_X0_takeTurned_30 {S : am_S} {a q a0 q0 w h : Nat} (hd : am_dr S a q) (hd0 : am_dr S a0 q0) (hne : a0 ≠ a) (hq : q0 ≠ q) (w1 : 1 ≤ w) (w8 : w ≤ 8) (h1 : 1 ≤ h) (h8 : h ≤ 8) {I : am_I} (vc : I a0 0 = nI w) (vd : I a0 1 = nI h) : am_Mt 2 Y_X0_takeTurned (0, 0) [.ref a, .ref a0, .int (nI 3), .int (nI 0)] S I (am_q none S (List.foldl (ttS q q0 w h 3 0) (dr_clr I a q h w) (pts w h))) := by
  have hx := hd.ne2 hd0
  have LJ : ∀ j, 1 ≤ j → j ≤ 2 * h → ∀ I, I a 0 = nI h → I a 1 = nI w → I a0 0 = nI w → I a0 1 = nI h → am_Rn 2 Y_X0_takeTurned (0, 0) 53 [some (.ref a), some (.ref a0), some (.int (nI 3)), some (.int (nI 0)), some (.int (nI 1)), some (.int (nI j)), none, none, none, none, none] [] S I (am_q none S (List.foldl (ttS q q0 w h 3 0) I (rowsP w h j))) := by
    intro j hj1 hj2
    revert hj1
    refine am_loop (P := fun j => 1 ≤ j → ∀ I, I a 0 = nI h → I a 1 = nI w → I a0 0 = nI w → I a0 1 = nI h → am_Rn 2 Y_X0_takeTurned (0, 0) 53 [some (.ref a), some (.ref a0), some (.int (nI 3)), some (.int (nI 0)), some (.int (nI 1)), some (.int (nI j)), none, none, none, none, none] [] S I (am_q none S (List.foldl (ttS q q0 w h 3 0) I (rowsP w h j)))) (2 * h) ?_ j hj2
    clear hj2 j
    intro j hj2 ihj0 hj1
    have ihj : j < 2 * h → _ := fun hl => ihj0 hl (by omega)
    have LI : j < 2 * h → ∀ i, ∀ I, I a 0 = nI h → I a 1 = nI w → I a0 0 = nI w → I a0 1 = nI h → (1 ≤ i ∧ (i + j) % 2 = 1 ∧ i ≤ 2 * w + 1) → am_Rn 2 Y_X0_takeTurned (0, 0) 72 [some (.ref a), some (.ref a0), some (.int (nI 3)), some (.int (nI 0)), some (.int (nI 1)), some (.int (nI j)), some (.int (nI i)), none, none, none, none] [] S I (am_q none S (List.foldl (ttS q q0 w h 3 0) I (rowP w j i ++ rowsP w h (j + 1)))) := by
      intro c_61
      refine am_wf (fun i => 2 * w - i) ?_
      intro i ihi I va vb vc vd hip
      refine rn_iload dX0_takeTurned_72 rfl ?_
      refine rn_iconst (v := nI 2) dX0_takeTurned_74 (by decide) ?_
      refine rn_aload_n dX0_takeTurned_75 rfl rfl ?_
      refine rn_getI dX0_takeTurned_76 fd_0_9 hd0.1 hd0.2.1 rfl ?_
      refine rn_top (y := nI w) (vc) ?_
      refine rn_imul dX0_takeTurned_79 ?_
      refine rn_top (pk_mul _ _) ?_
      refine rn_icmp_geN (tgt := 168) dX0_takeTurned_80 (by decide) (by omega) (by omega) (fun c_80 => ?_) (fun c_80 => ?_)
      · refine rn_iinc (v := nI (j + 1)) (ls' := [some (.ref a), some (.ref a0), some (.int (nI 3)), some (.int (nI 0)), some (.int (nI 1)), some (.int (nI (j + 1))), some (.int (nI i)), none, none, none, none]) dX0_takeTurned_168 rfl (nI_add _ 1) (by decide) rfl rfl ?_
        refine rn_goto (tgt := 53) dX0_takeTurned_171 (by decide) ?_
        refine rn_ls (ls' := [some (.ref a), some (.ref a0), some (.int (nI 3)), some (.int (nI 0)), some (.int (nI 1)), some (.int (nI (j + 1))), none, none, none, none, none]) rfl (fun k x h => by rcases k with _ | _ | _ | _ | _ | _ | _ | _ | _ | _ | _ | k <;> first | exact h | (simp at h)) ?_
        rw [rowP_n c_80, List.nil_append]
        exact ihj c_61 I va vb vc vd
      · refine rn_aload_n dX0_takeTurned_83 rfl rfl ?_
        refine rn_iload dX0_takeTurned_84 rfl ?_
        refine rn_iload dX0_takeTurned_86 rfl ?_
        refine rn_callVq (st := []) dX0_takeTurned_88 cf_0_54 (c_X0_mirrorAt hd0 vc vd w8 h8 (decide_eq_true (by omega))) (by decide) hd0.1 hd0.2.1 rfl rfl (Nat.le_of_ble_eq_true rfl) ?_
        refine rn_istore (ls' := [some (.ref a), some (.ref a0), some (.int (nI 3)), some (.int (nI 0)), some (.int (nI 1)), some (.int (nI j)), some (.int (nI i)), some (.int (I q0 (8 * j + i / 2))), none, none, none]) dX0_takeTurned_91 (by decide) rfl rfl ?_
        refine rn_aload_n dX0_takeTurned_93 rfl rfl ?_
        refine rn_iload_n dX0_takeTurned_94 rfl rfl ?_
        refine rn_iload dX0_takeTurned_95 rfl ?_
        refine rn_iload dX0_takeTurned_97 rfl ?_
        refine rn_callSq (st := []) dX0_takeTurned_99 cf_0_57 (c_X0_turnedColumn hd0 vc vd (t := 3) (by decide) (by omega) (by omega)) (by decide) rfl rfl (Nat.le_of_ble_eq_true rfl) ?_
        refine rn_istore (ls' := [some (.ref a), some (.ref a0), some (.int (nI 3)), some (.int (nI 0)), some (.int (nI 1)), some (.int (nI j)), some (.int (nI i)), some (.int (I q0 (8 * j + i / 2))), some (.int (nI j)), none, none]) dX0_takeTurned_102 (by decide) rfl rfl ?_
        refine rn_aload_n dX0_takeTurned_104 rfl rfl ?_
        refine rn_iload_n dX0_takeTurned_105 rfl rfl ?_
        refine rn_iload dX0_takeTurned_106 rfl ?_
        refine rn_iload dX0_takeTurned_108 rfl ?_
        refine rn_callSq (st := []) dX0_takeTurned_110 cf_0_61 (c_X0_turnedRow hd0 vc vd (t := 3) (by decide) (by omega) (by omega)) (by decide) rfl rfl (Nat.le_of_ble_eq_true rfl) ?_
        refine rn_istore (ls' := [some (.ref a), some (.ref a0), some (.int (nI 3)), some (.int (nI 0)), some (.int (nI 1)), some (.int (nI j)), some (.int (nI i)), some (.int (I q0 (8 * j + i / 2))), some (.int (nI j)), some (.int (nI (2 * w - i))), none]) dX0_takeTurned_113 (by decide) rfl rfl ?_
        refine rn_iload dX0_takeTurned_115 rfl ?_
        refine rn_if_eqN (tgt := 132) dX0_takeTurned_117 (by decide) (by omega) (fun c_117 => ?_) (fun c_117 => ?_)
        · exact absurd c_117 (by decide)
        · refine rn_iload dX0_takeTurned_120 rfl ?_
          refine rn_if_eq (tgt := 132) dX0_takeTurned_122 (by decide) (fun c_122 => ?_) (fun c_122 => ?_)
          · refine rn_iload dX0_takeTurned_132 rfl ?_
            refine rn_istore (ls' := [some (.ref a), some (.ref a0), some (.int (nI 3)), some (.int (nI 0)), some (.int (nI 1)), some (.int (nI j)), some (.int (nI i)), some (.int (I q0 (8 * j + i / 2))), some (.int (nI j)), some (.int (nI (2 * w - i))), some (.int (I q0 (8 * j + i / 2)))]) dX0_takeTurned_134 (by decide) rfl rfl ?_
            refine rn_aload_n dX0_takeTurned_136 rfl rfl ?_
            refine rn_iload_n dX0_takeTurned_137 rfl rfl ?_
            refine rn_if_eqN (tgt := 153) dX0_takeTurned_138 (by decide) (by omega) (fun c_138 => ?_) (fun c_138 => ?_)
            · refine rn_iload dX0_takeTurned_153 rfl ?_
              refine rn_iload dX0_takeTurned_155 rfl ?_
              refine rn_iload dX0_takeTurned_157 rfl ?_
              refine rn_callVq (st := []) dX0_takeTurned_159 cf_0_64 (c_X0_put hd va vb (by omega) (by omega) (decide_eq_true (by omega)) _) (by decide) hd.1 hd.2.1 rfl rfl (Nat.le_of_ble_eq_true rfl) ?_
              refine rn_iinc (v := nI (i + 2)) (ls' := [some (.ref a), some (.ref a0), some (.int (nI 3)), some (.int (nI 0)), some (.int (nI 1)), some (.int (nI j)), some (.int (nI (i + 2))), some (.int (I q0 (8 * j + i / 2))), some (.int (nI j)), some (.int (nI (2 * w - i))), some (.int (I q0 (8 * j + i / 2)))]) dX0_takeTurned_162 rfl (nI_add _ 2) (by decide) rfl rfl ?_
              refine rn_goto (tgt := 72) dX0_takeTurned_165 (by decide) ?_
              refine rn_ls (ls' := [some (.ref a), some (.ref a0), some (.int (nI 3)), some (.int (nI 0)), some (.int (nI 1)), some (.int (nI j)), some (.int (nI (i + 2))), none, none, none, none]) rfl (fun k x h => by rcases k with _ | _ | _ | _ | _ | _ | _ | _ | _ | _ | _ | k <;> first | exact h | (simp at h)) ?_
              rw [rowP_c c_80, List.cons_append, List.foldl_cons, show (ttS q q0 w h 3 0) I (i, j) = (am_up I q (8 * (2 * w - i) + (j) / 2) (I q0 (8 * j + i / 2))) from (by simp [ttS, tval, trow, tcol, tflp, twid, c_122])]
              exact ihi (i + 2) (by show 2 * w - (i + 2) < 2 * w - i; omega) _ (by rw [am_up_a _ _ hd.ne]; exact va) (by rw [am_up_a _ _ hd.ne]; exact vb) (by rw [am_up_a _ _ hx]; exact vc) (by rw [am_up_a _ _ hx]; exact vd) (by omega)
            · exact absurd c_138 (by decide)
          · refine rn_iconst (v := nI 3) dX0_takeTurned_125 (by decide) ?_
            refine rn_iload dX0_takeTurned_126 rfl ?_
            refine rn_isub dX0_takeTurned_128 ?_
            refine rn_goto (tgt := 134) dX0_takeTurned_129 (by decide) ?_
            refine rn_istore (ls' := [some (.ref a), some (.ref a0), some (.int (nI 3)), some (.int (nI 0)), some (.int (nI 1)), some (.int (nI j)), some (.int (nI i)), some (.int (I q0 (8 * j + i / 2))), some (.int (nI j)), some (.int (nI (2 * w - i))), some (.int ((nI 3) - (I q0 (8 * j + i / 2))))]) dX0_takeTurned_134 (by decide) rfl rfl ?_
            refine rn_aload_n dX0_takeTurned_136 rfl rfl ?_
            refine rn_iload_n dX0_takeTurned_137 rfl rfl ?_
            refine rn_if_eqN (tgt := 153) dX0_takeTurned_138 (by decide) (by omega) (fun c_138 => ?_) (fun c_138 => ?_)
            · refine rn_iload dX0_takeTurned_153 rfl ?_
              refine rn_iload dX0_takeTurned_155 rfl ?_
              refine rn_iload dX0_takeTurned_157 rfl ?_
              refine rn_callVq (st := []) dX0_takeTurned_159 cf_0_64 (c_X0_put hd va vb (by omega) (by omega) (decide_eq_true (by omega)) _) (by decide) hd.1 hd.2.1 rfl rfl (Nat.le_of_ble_eq_true rfl) ?_
              refine rn_iinc (v := nI (i + 2)) (ls' := [some (.ref a), some (.ref a0), some (.int (nI 3)), some (.int (nI 0)), some (.int (nI 1)), some (.int (nI j)), some (.int (nI (i + 2))), some (.int (I q0 (8 * j + i / 2))), some (.int (nI j)), some (.int (nI (2 * w - i))), some (.int ((nI 3) - (I q0 (8 * j + i / 2))))]) dX0_takeTurned_162 rfl (nI_add _ 2) (by decide) rfl rfl ?_
              refine rn_goto (tgt := 72) dX0_takeTurned_165 (by decide) ?_
              refine rn_ls (ls' := [some (.ref a), some (.ref a0), some (.int (nI 3)), some (.int (nI 0)), some (.int (nI 1)), some (.int (nI j)), some (.int (nI (i + 2))), none, none, none, none]) rfl (fun k x h => by rcases k with _ | _ | _ | _ | _ | _ | _ | _ | _ | _ | _ | k <;> first | exact h | (simp at h)) ?_
              rw [rowP_c c_80, List.cons_append, List.foldl_cons, show (ttS q q0 w h 3 0) I (i, j) = (am_up I q (8 * (2 * w - i) + (j) / 2) ((nI 3) - (I q0 (8 * j + i / 2)))) from (by simp [ttS, tval, trow, tcol, tflp, twid, c_122])]
              exact ihi (i + 2) (by show 2 * w - (i + 2) < 2 * w - i; omega) _ (by rw [am_up_a _ _ hd.ne]; exact va) (by rw [am_up_a _ _ hd.ne]; exact vb) (by rw [am_up_a _ _ hx]; exact vc) (by rw [am_up_a _ _ hx]; exact vd) (by omega)
            · exact absurd c_138 (by decide)
    intro I va vb vc vd
    refine rn_iload dX0_takeTurned_53 rfl ?_
    refine rn_iconst (v := nI 2) dX0_takeTurned_55 (by decide) ?_
    refine rn_aload_n dX0_takeTurned_56 rfl rfl ?_
    refine rn_getI dX0_takeTurned_57 fd_0_15 hd0.1 hd0.2.1 rfl ?_
    refine rn_top (y := nI h) (vd) ?_
    refine rn_imul dX0_takeTurned_60 ?_
    refine rn_top (pk_mul _ _) ?_
    refine rn_icmp_geN (tgt := 174) dX0_takeTurned_61 (by decide) (by omega) (by omega) (fun c_61 => ?_) (fun c_61 => ?_)
    · refine rn_return dX0_takeTurned_174 rfl ?_
      rw [rowsP_n c_61]
      exact ⟨rfl, rfl, rfl⟩
    · refine rn_iconst (v := nI 1) dX0_takeTurned_64 (by decide) ?_
      refine rn_iload dX0_takeTurned_65 rfl ?_
      refine rn_iconst (v := nI 1) dX0_takeTurned_67 (by decide) ?_
      refine rn_iand dX0_takeTurned_68 ?_
      refine rn_top (z_nand (by omega)) ?_
      refine rn_iadd dX0_takeTurned_69 ?_
      refine rn_top (nI_add _ _) ?_
      refine rn_istore (ls' := [some (.ref a), some (.ref a0), some (.int (nI 3)), some (.int (nI 0)), some (.int (nI 1)), some (.int (nI j)), some (.int (nI (1 + (j % 2)))), none, none, none, none]) dX0_takeTurned_70 (by decide) rfl rfl ?_
      rw [rowsP_c c_61]
      exact LI c_61 (1 + j % 2) I va vb vc vd (by omega)
  refine am_mt ⟨by decide +kernel, rfl⟩ (Nat.le_of_ble_eq_true rfl) rfl ?_
  refine rn_iload_n dX0_takeTurned_0 rfl rfl ?_
  refine rn_iconst (v := nI 1) dX0_takeTurned_1 (by decide) ?_
  refine rn_iand dX0_takeTurned_2 ?_
  refine rn_top (y := nI 1) (by decide) ?_
  refine rn_iconst (v := nI 1) dX0_takeTurned_3 (by decide) ?_
  refine rn_icmp_neN (tgt := 11) dX0_takeTurned_4 (by decide) (by omega) (by omega) (fun c_4 => ?_) (fun c_4 => ?_)
  · exact absurd c_4 (by decide)
  · refine rn_iconst (v := nI 1) dX0_takeTurned_7 (by decide) ?_
    refine rn_goto (tgt := 12) dX0_takeTurned_8 (by decide) ?_
    refine rn_istore (ls' := [some (.ref a), some (.ref a0), some (.int (nI 3)), some (.int (nI 0)), some (.int (nI 1)), none, none, none, none, none, none]) dX0_takeTurned_12 (by decide) rfl rfl ?_
    refine rn_aload_n dX0_takeTurned_14 rfl rfl ?_
    refine rn_iload dX0_takeTurned_15 rfl ?_
    refine rn_if_eqN (tgt := 27) dX0_takeTurned_17 (by decide) (by omega) (fun c_17 => ?_) (fun c_17 => ?_)
    · exact absurd c_17 (by decide)
    · refine rn_aload_n dX0_takeTurned_20 rfl rfl ?_
      refine rn_getI dX0_takeTurned_21 fd_0_15 hd0.1 hd0.2.1 rfl ?_
      refine rn_top (y := nI h) (vd) ?_
      refine rn_goto (tgt := 31) dX0_takeTurned_24 (by decide) ?_
      refine rn_iload dX0_takeTurned_31 rfl ?_
      refine rn_if_eqN (tgt := 43) dX0_takeTurned_33 (by decide) (by omega) (fun c_33 => ?_) (fun c_33 => ?_)
      · exact absurd c_33 (by decide)
      · refine rn_aload_n dX0_takeTurned_36 rfl rfl ?_
        refine rn_getI dX0_takeTurned_37 fd_0_9 hd0.1 hd0.2.1 rfl ?_
        refine rn_top (y := nI w) (vc) ?_
        refine rn_goto (tgt := 47) dX0_takeTurned_40 (by decide) ?_
        refine rn_callVq (st := []) dX0_takeTurned_47 cf_0_50 (c_X0_clear hd (w := h) (h := w) (by omega) (by omega) (by omega) (by omega)) (by decide) hd.1 hd.2.1 rfl rfl (Nat.le_of_ble_eq_true rfl) ?_
        refine rn_iconst (v := nI 1) dX0_takeTurned_50 (by decide) ?_
        refine rn_istore (ls' := [some (.ref a), some (.ref a0), some (.int (nI 3)), some (.int (nI 0)), some (.int (nI 1)), some (.int (nI 1)), none, none, none, none, none]) dX0_takeTurned_51 (by decide) rfl rfl ?_
        exact LJ 1 (by omega) (by omega) _ (dr_clr_w I hd.ne).1 (dr_clr_w I hd.ne).2 (by rw [dr_clr_o I hne hx]; exact vc) (by rw [dr_clr_o I hne hx]; exact vd)
set_option maxHeartbeats 1000000 in
set_option maxRecDepth 100000 in
theorem c_X0_takeTurned_31 {S : am_S} {a q a0 q0 w h : Nat} (hd : am_dr S a q) (hd0 : am_dr S a0 q0) (hne : a0 ≠ a) (hq : q0 ≠ q) (w1 : 1 ≤ w) (w8 : w ≤ 8) (h1 : 1 ≤ h) (h8 : h ≤ 8) {I : am_I} (vc : I a0 0 = nI w) (vd : I a0 1 = nI h) : am_Mt 2 Y_X0_takeTurned (0, 0) [.ref a, .ref a0, .int (nI 3), .int (nI 1)] S I (am_q none S (List.foldl (ttS q q0 w h 3 1) (dr_clr I a q h w) (pts w h))) := by
  have hx := hd.ne2 hd0
  have LJ : ∀ j, 1 ≤ j → j ≤ 2 * h → ∀ I, I a 0 = nI h → I a 1 = nI w → I a0 0 = nI w → I a0 1 = nI h → am_Rn 2 Y_X0_takeTurned (0, 0) 53 [some (.ref a), some (.ref a0), some (.int (nI 3)), some (.int (nI 1)), some (.int (nI 1)), some (.int (nI j)), none, none, none, none, none] [] S I (am_q none S (List.foldl (ttS q q0 w h 3 1) I (rowsP w h j))) := by
    intro j hj1 hj2
    revert hj1
    refine am_loop (P := fun j => 1 ≤ j → ∀ I, I a 0 = nI h → I a 1 = nI w → I a0 0 = nI w → I a0 1 = nI h → am_Rn 2 Y_X0_takeTurned (0, 0) 53 [some (.ref a), some (.ref a0), some (.int (nI 3)), some (.int (nI 1)), some (.int (nI 1)), some (.int (nI j)), none, none, none, none, none] [] S I (am_q none S (List.foldl (ttS q q0 w h 3 1) I (rowsP w h j)))) (2 * h) ?_ j hj2
    clear hj2 j
    intro j hj2 ihj0 hj1
    have ihj : j < 2 * h → _ := fun hl => ihj0 hl (by omega)
    have LI : j < 2 * h → ∀ i, ∀ I, I a 0 = nI h → I a 1 = nI w → I a0 0 = nI w → I a0 1 = nI h → (1 ≤ i ∧ (i + j) % 2 = 1 ∧ i ≤ 2 * w + 1) → am_Rn 2 Y_X0_takeTurned (0, 0) 72 [some (.ref a), some (.ref a0), some (.int (nI 3)), some (.int (nI 1)), some (.int (nI 1)), some (.int (nI j)), some (.int (nI i)), none, none, none, none] [] S I (am_q none S (List.foldl (ttS q q0 w h 3 1) I (rowP w j i ++ rowsP w h (j + 1)))) := by
      intro c_61
      refine am_wf (fun i => 2 * w - i) ?_
      intro i ihi I va vb vc vd hip
      refine rn_iload dX0_takeTurned_72 rfl ?_
      refine rn_iconst (v := nI 2) dX0_takeTurned_74 (by decide) ?_
      refine rn_aload_n dX0_takeTurned_75 rfl rfl ?_
      refine rn_getI dX0_takeTurned_76 fd_0_9 hd0.1 hd0.2.1 rfl ?_
      refine rn_top (y := nI w) (vc) ?_
      refine rn_imul dX0_takeTurned_79 ?_
      refine rn_top (pk_mul _ _) ?_
      refine rn_icmp_geN (tgt := 168) dX0_takeTurned_80 (by decide) (by omega) (by omega) (fun c_80 => ?_) (fun c_80 => ?_)
      · refine rn_iinc (v := nI (j + 1)) (ls' := [some (.ref a), some (.ref a0), some (.int (nI 3)), some (.int (nI 1)), some (.int (nI 1)), some (.int (nI (j + 1))), some (.int (nI i)), none, none, none, none]) dX0_takeTurned_168 rfl (nI_add _ 1) (by decide) rfl rfl ?_
        refine rn_goto (tgt := 53) dX0_takeTurned_171 (by decide) ?_
        refine rn_ls (ls' := [some (.ref a), some (.ref a0), some (.int (nI 3)), some (.int (nI 1)), some (.int (nI 1)), some (.int (nI (j + 1))), none, none, none, none, none]) rfl (fun k x h => by rcases k with _ | _ | _ | _ | _ | _ | _ | _ | _ | _ | _ | k <;> first | exact h | (simp at h)) ?_
        rw [rowP_n c_80, List.nil_append]
        exact ihj c_61 I va vb vc vd
      · refine rn_aload_n dX0_takeTurned_83 rfl rfl ?_
        refine rn_iload dX0_takeTurned_84 rfl ?_
        refine rn_iload dX0_takeTurned_86 rfl ?_
        refine rn_callVq (st := []) dX0_takeTurned_88 cf_0_54 (c_X0_mirrorAt hd0 vc vd w8 h8 (decide_eq_true (by omega))) (by decide) hd0.1 hd0.2.1 rfl rfl (Nat.le_of_ble_eq_true rfl) ?_
        refine rn_istore (ls' := [some (.ref a), some (.ref a0), some (.int (nI 3)), some (.int (nI 1)), some (.int (nI 1)), some (.int (nI j)), some (.int (nI i)), some (.int (I q0 (8 * j + i / 2))), none, none, none]) dX0_takeTurned_91 (by decide) rfl rfl ?_
        refine rn_aload_n dX0_takeTurned_93 rfl rfl ?_
        refine rn_iload_n dX0_takeTurned_94 rfl rfl ?_
        refine rn_iload dX0_takeTurned_95 rfl ?_
        refine rn_iload dX0_takeTurned_97 rfl ?_
        refine rn_callSq (st := []) dX0_takeTurned_99 cf_0_57 (c_X0_turnedColumn hd0 vc vd (t := 3) (by decide) (by omega) (by omega)) (by decide) rfl rfl (Nat.le_of_ble_eq_true rfl) ?_
        refine rn_istore (ls' := [some (.ref a), some (.ref a0), some (.int (nI 3)), some (.int (nI 1)), some (.int (nI 1)), some (.int (nI j)), some (.int (nI i)), some (.int (I q0 (8 * j + i / 2))), some (.int (nI j)), none, none]) dX0_takeTurned_102 (by decide) rfl rfl ?_
        refine rn_aload_n dX0_takeTurned_104 rfl rfl ?_
        refine rn_iload_n dX0_takeTurned_105 rfl rfl ?_
        refine rn_iload dX0_takeTurned_106 rfl ?_
        refine rn_iload dX0_takeTurned_108 rfl ?_
        refine rn_callSq (st := []) dX0_takeTurned_110 cf_0_61 (c_X0_turnedRow hd0 vc vd (t := 3) (by decide) (by omega) (by omega)) (by decide) rfl rfl (Nat.le_of_ble_eq_true rfl) ?_
        refine rn_istore (ls' := [some (.ref a), some (.ref a0), some (.int (nI 3)), some (.int (nI 1)), some (.int (nI 1)), some (.int (nI j)), some (.int (nI i)), some (.int (I q0 (8 * j + i / 2))), some (.int (nI j)), some (.int (nI (2 * w - i))), none]) dX0_takeTurned_113 (by decide) rfl rfl ?_
        refine rn_iload dX0_takeTurned_115 rfl ?_
        refine rn_if_eqN (tgt := 132) dX0_takeTurned_117 (by decide) (by omega) (fun c_117 => ?_) (fun c_117 => ?_)
        · exact absurd c_117 (by decide)
        · refine rn_iload dX0_takeTurned_120 rfl ?_
          refine rn_if_eq (tgt := 132) dX0_takeTurned_122 (by decide) (fun c_122 => ?_) (fun c_122 => ?_)
          · refine rn_iload dX0_takeTurned_132 rfl ?_
            refine rn_istore (ls' := [some (.ref a), some (.ref a0), some (.int (nI 3)), some (.int (nI 1)), some (.int (nI 1)), some (.int (nI j)), some (.int (nI i)), some (.int (I q0 (8 * j + i / 2))), some (.int (nI j)), some (.int (nI (2 * w - i))), some (.int (I q0 (8 * j + i / 2)))]) dX0_takeTurned_134 (by decide) rfl rfl ?_
            refine rn_aload_n dX0_takeTurned_136 rfl rfl ?_
            refine rn_iload_n dX0_takeTurned_137 rfl rfl ?_
            refine rn_if_eqN (tgt := 153) dX0_takeTurned_138 (by decide) (by omega) (fun c_138 => ?_) (fun c_138 => ?_)
            · exact absurd c_138 (by decide)
            · refine rn_iconst (v := nI 2) dX0_takeTurned_141 (by decide) ?_
              refine rn_aload_n dX0_takeTurned_142 rfl rfl ?_
              refine rn_getI dX0_takeTurned_143 fd_0_9 hd.1 hd.2.1 rfl ?_
              refine rn_top (y := nI h) (va) ?_
              refine rn_imul dX0_takeTurned_146 ?_
              refine rn_top (pk_mul _ _) ?_
              refine rn_iload dX0_takeTurned_147 rfl ?_
              refine rn_isub dX0_takeTurned_149 ?_
              refine rn_top (pk_sub (by omega)) ?_
              refine rn_goto (tgt := 155) dX0_takeTurned_150 (by decide) ?_
              refine rn_iload dX0_takeTurned_155 rfl ?_
              refine rn_iload dX0_takeTurned_157 rfl ?_
              refine rn_callVq (st := []) dX0_takeTurned_159 cf_0_64 (c_X0_put hd va vb (by omega) (by omega) (decide_eq_true (by omega)) _) (by decide) hd.1 hd.2.1 rfl rfl (Nat.le_of_ble_eq_true rfl) ?_
              refine rn_iinc (v := nI (i + 2)) (ls' := [some (.ref a), some (.ref a0), some (.int (nI 3)), some (.int (nI 1)), some (.int (nI 1)), some (.int (nI j)), some (.int (nI (i + 2))), some (.int (I q0 (8 * j + i / 2))), some (.int (nI j)), some (.int (nI (2 * w - i))), some (.int (I q0 (8 * j + i / 2)))]) dX0_takeTurned_162 rfl (nI_add _ 2) (by decide) rfl rfl ?_
              refine rn_goto (tgt := 72) dX0_takeTurned_165 (by decide) ?_
              refine rn_ls (ls' := [some (.ref a), some (.ref a0), some (.int (nI 3)), some (.int (nI 1)), some (.int (nI 1)), some (.int (nI j)), some (.int (nI (i + 2))), none, none, none, none]) rfl (fun k x h => by rcases k with _ | _ | _ | _ | _ | _ | _ | _ | _ | _ | _ | k <;> first | exact h | (simp at h)) ?_
              rw [rowP_c c_80, List.cons_append, List.foldl_cons, show (ttS q q0 w h 3 1) I (i, j) = (am_up I q (8 * (2 * w - i) + ((2 * h) - j) / 2) (I q0 (8 * j + i / 2))) from (by simp [ttS, tval, trow, tcol, tflp, twid, c_122])]
              exact ihi (i + 2) (by show 2 * w - (i + 2) < 2 * w - i; omega) _ (by rw [am_up_a _ _ hd.ne]; exact va) (by rw [am_up_a _ _ hd.ne]; exact vb) (by rw [am_up_a _ _ hx]; exact vc) (by rw [am_up_a _ _ hx]; exact vd) (by omega)
          · refine rn_iconst (v := nI 3) dX0_takeTurned_125 (by decide) ?_
            refine rn_iload dX0_takeTurned_126 rfl ?_
            refine rn_isub dX0_takeTurned_128 ?_
            refine rn_goto (tgt := 134) dX0_takeTurned_129 (by decide) ?_
            refine rn_istore (ls' := [some (.ref a), some (.ref a0), some (.int (nI 3)), some (.int (nI 1)), some (.int (nI 1)), some (.int (nI j)), some (.int (nI i)), some (.int (I q0 (8 * j + i / 2))), some (.int (nI j)), some (.int (nI (2 * w - i))), some (.int ((nI 3) - (I q0 (8 * j + i / 2))))]) dX0_takeTurned_134 (by decide) rfl rfl ?_
            refine rn_aload_n dX0_takeTurned_136 rfl rfl ?_
            refine rn_iload_n dX0_takeTurned_137 rfl rfl ?_
            refine rn_if_eqN (tgt := 153) dX0_takeTurned_138 (by decide) (by omega) (fun c_138 => ?_) (fun c_138 => ?_)
            · exact absurd c_138 (by decide)
            · refine rn_iconst (v := nI 2) dX0_takeTurned_141 (by decide) ?_
              refine rn_aload_n dX0_takeTurned_142 rfl rfl ?_
              refine rn_getI dX0_takeTurned_143 fd_0_9 hd.1 hd.2.1 rfl ?_
              refine rn_top (y := nI h) (va) ?_
              refine rn_imul dX0_takeTurned_146 ?_
              refine rn_top (pk_mul _ _) ?_
              refine rn_iload dX0_takeTurned_147 rfl ?_
              refine rn_isub dX0_takeTurned_149 ?_
              refine rn_top (pk_sub (by omega)) ?_
              refine rn_goto (tgt := 155) dX0_takeTurned_150 (by decide) ?_
              refine rn_iload dX0_takeTurned_155 rfl ?_
              refine rn_iload dX0_takeTurned_157 rfl ?_
              refine rn_callVq (st := []) dX0_takeTurned_159 cf_0_64 (c_X0_put hd va vb (by omega) (by omega) (decide_eq_true (by omega)) _) (by decide) hd.1 hd.2.1 rfl rfl (Nat.le_of_ble_eq_true rfl) ?_
              refine rn_iinc (v := nI (i + 2)) (ls' := [some (.ref a), some (.ref a0), some (.int (nI 3)), some (.int (nI 1)), some (.int (nI 1)), some (.int (nI j)), some (.int (nI (i + 2))), some (.int (I q0 (8 * j + i / 2))), some (.int (nI j)), some (.int (nI (2 * w - i))), some (.int ((nI 3) - (I q0 (8 * j + i / 2))))]) dX0_takeTurned_162 rfl (nI_add _ 2) (by decide) rfl rfl ?_
              refine rn_goto (tgt := 72) dX0_takeTurned_165 (by decide) ?_
              refine rn_ls (ls' := [some (.ref a), some (.ref a0), some (.int (nI 3)), some (.int (nI 1)), some (.int (nI 1)), some (.int (nI j)), some (.int (nI (i + 2))), none, none, none, none]) rfl (fun k x h => by rcases k with _ | _ | _ | _ | _ | _ | _ | _ | _ | _ | _ | k <;> first | exact h | (simp at h)) ?_
              rw [rowP_c c_80, List.cons_append, List.foldl_cons, show (ttS q q0 w h 3 1) I (i, j) = (am_up I q (8 * (2 * w - i) + ((2 * h) - j) / 2) ((nI 3) - (I q0 (8 * j + i / 2)))) from (by simp [ttS, tval, trow, tcol, tflp, twid, c_122])]
              exact ihi (i + 2) (by show 2 * w - (i + 2) < 2 * w - i; omega) _ (by rw [am_up_a _ _ hd.ne]; exact va) (by rw [am_up_a _ _ hd.ne]; exact vb) (by rw [am_up_a _ _ hx]; exact vc) (by rw [am_up_a _ _ hx]; exact vd) (by omega)
    intro I va vb vc vd
    refine rn_iload dX0_takeTurned_53 rfl ?_
    refine rn_iconst (v := nI 2) dX0_takeTurned_55 (by decide) ?_
    refine rn_aload_n dX0_takeTurned_56 rfl rfl ?_
    refine rn_getI dX0_takeTurned_57 fd_0_15 hd0.1 hd0.2.1 rfl ?_
    refine rn_top (y := nI h) (vd) ?_
    refine rn_imul dX0_takeTurned_60 ?_
    refine rn_top (pk_mul _ _) ?_
    refine rn_icmp_geN (tgt := 174) dX0_takeTurned_61 (by decide) (by omega) (by omega) (fun c_61 => ?_) (fun c_61 => ?_)
    · refine rn_return dX0_takeTurned_174 rfl ?_
      rw [rowsP_n c_61]
      exact ⟨rfl, rfl, rfl⟩
    · refine rn_iconst (v := nI 1) dX0_takeTurned_64 (by decide) ?_
      refine rn_iload dX0_takeTurned_65 rfl ?_
      refine rn_iconst (v := nI 1) dX0_takeTurned_67 (by decide) ?_
      refine rn_iand dX0_takeTurned_68 ?_
      refine rn_top (z_nand (by omega)) ?_
      refine rn_iadd dX0_takeTurned_69 ?_
      refine rn_top (nI_add _ _) ?_
      refine rn_istore (ls' := [some (.ref a), some (.ref a0), some (.int (nI 3)), some (.int (nI 1)), some (.int (nI 1)), some (.int (nI j)), some (.int (nI (1 + (j % 2)))), none, none, none, none]) dX0_takeTurned_70 (by decide) rfl rfl ?_
      rw [rowsP_c c_61]
      exact LI c_61 (1 + j % 2) I va vb vc vd (by omega)
  refine am_mt ⟨by decide +kernel, rfl⟩ (Nat.le_of_ble_eq_true rfl) rfl ?_
  refine rn_iload_n dX0_takeTurned_0 rfl rfl ?_
  refine rn_iconst (v := nI 1) dX0_takeTurned_1 (by decide) ?_
  refine rn_iand dX0_takeTurned_2 ?_
  refine rn_top (y := nI 1) (by decide) ?_
  refine rn_iconst (v := nI 1) dX0_takeTurned_3 (by decide) ?_
  refine rn_icmp_neN (tgt := 11) dX0_takeTurned_4 (by decide) (by omega) (by omega) (fun c_4 => ?_) (fun c_4 => ?_)
  · exact absurd c_4 (by decide)
  · refine rn_iconst (v := nI 1) dX0_takeTurned_7 (by decide) ?_
    refine rn_goto (tgt := 12) dX0_takeTurned_8 (by decide) ?_
    refine rn_istore (ls' := [some (.ref a), some (.ref a0), some (.int (nI 3)), some (.int (nI 1)), some (.int (nI 1)), none, none, none, none, none, none]) dX0_takeTurned_12 (by decide) rfl rfl ?_
    refine rn_aload_n dX0_takeTurned_14 rfl rfl ?_
    refine rn_iload dX0_takeTurned_15 rfl ?_
    refine rn_if_eqN (tgt := 27) dX0_takeTurned_17 (by decide) (by omega) (fun c_17 => ?_) (fun c_17 => ?_)
    · exact absurd c_17 (by decide)
    · refine rn_aload_n dX0_takeTurned_20 rfl rfl ?_
      refine rn_getI dX0_takeTurned_21 fd_0_15 hd0.1 hd0.2.1 rfl ?_
      refine rn_top (y := nI h) (vd) ?_
      refine rn_goto (tgt := 31) dX0_takeTurned_24 (by decide) ?_
      refine rn_iload dX0_takeTurned_31 rfl ?_
      refine rn_if_eqN (tgt := 43) dX0_takeTurned_33 (by decide) (by omega) (fun c_33 => ?_) (fun c_33 => ?_)
      · exact absurd c_33 (by decide)
      · refine rn_aload_n dX0_takeTurned_36 rfl rfl ?_
        refine rn_getI dX0_takeTurned_37 fd_0_9 hd0.1 hd0.2.1 rfl ?_
        refine rn_top (y := nI w) (vc) ?_
        refine rn_goto (tgt := 47) dX0_takeTurned_40 (by decide) ?_
        refine rn_callVq (st := []) dX0_takeTurned_47 cf_0_50 (c_X0_clear hd (w := h) (h := w) (by omega) (by omega) (by omega) (by omega)) (by decide) hd.1 hd.2.1 rfl rfl (Nat.le_of_ble_eq_true rfl) ?_
        refine rn_iconst (v := nI 1) dX0_takeTurned_50 (by decide) ?_
        refine rn_istore (ls' := [some (.ref a), some (.ref a0), some (.int (nI 3)), some (.int (nI 1)), some (.int (nI 1)), some (.int (nI 1)), none, none, none, none, none]) dX0_takeTurned_51 (by decide) rfl rfl ?_
        exact LJ 1 (by omega) (by omega) _ (dr_clr_w I hd.ne).1 (dr_clr_w I hd.ne).2 (by rw [dr_clr_o I hne hx]; exact vc) (by rw [dr_clr_o I hne hx]; exact vd)
set_option maxHeartbeats 1000000 in
set_option maxRecDepth 100000 in
theorem c_X0_growBeside {S : am_S} {a q a0 q0 w h w0 h0 : Nat} (hd : am_dr S a q) (hd0 : am_dr S a0 q0) (hne : a0 ≠ a) (hq : q0 ≠ q) (w1 : 1 ≤ w) (w8 : w ≤ 8) (h1 : 1 ≤ h) (h8 : h ≤ 8) (w01 : 1 ≤ w0) (w08 : w0 ≤ 8) (h01 : 1 ≤ h0) (h08 : h0 ≤ 8) {I : am_I} (va : I a 0 = nI w) (vb : I a 1 = nI h) (vc : I a0 0 = nI w0) (vd : I a0 1 = nI h0) : am_Mt 3 Y_X0_growBeside (0, 0) [.ref a, .ref a0] S I (fun r S' I' => ((w + w0 ≤ 8 ∧ h = h0) ∧ r = some (.int (nI 1)) ∧ S' = S ∧ I' = (List.foldl (lyS q q0 (2 * w) (0)) (am_up I a 0 (nI (w + w0))) (pts w0 h0))) ∨ (¬ (w + w0 ≤ 8 ∧ h = h0) ∧ r = some (.int (nI 0)) ∧ S' = S ∧ I' = I)) := by
  refine am_mt ⟨by decide +kernel, rfl⟩ (Nat.le_of_ble_eq_true rfl) rfl ?_
  refine rn_iconst (v := nI 2) dX0_growBeside_0 (by decide) ?_
  refine rn_aload_n dX0_growBeside_1 rfl rfl ?_
  refine rn_getI dX0_growBeside_2 fd_0_9 hd.1 hd.2.1 rfl ?_
  refine rn_top (y := nI w) (va) ?_
  refine rn_imul dX0_growBeside_5 ?_
  refine rn_top (pk_mul _ _) ?_
  refine rn_istore_n (ls' := [some (.ref a), some (.ref a0), some (.int (nI (2 * w)))]) dX0_growBeside_6 rfl (by decide) rfl rfl ?_
  refine rn_aload_n dX0_growBeside_7 rfl rfl ?_
  refine rn_getI dX0_growBeside_8 fd_0_15 hd.1 hd.2.1 rfl ?_
  refine rn_top (y := nI h) (vb) ?_
  refine rn_aload_n dX0_growBeside_11 rfl rfl ?_
  refine rn_getI dX0_growBeside_12 fd_0_15 hd0.1 hd0.2.1 rfl ?_
  refine rn_top (y := nI h0) (vd) ?_
  refine rn_icmp_neN (tgt := 33) dX0_growBeside_15 (by decide) (by omega) (by omega) (fun c_15 => ?_) (fun c_15 => ?_)
  · try have c_30' := of_decide_eq_false c_30
    try rw [z_nI (by omega)] at c_30'
    refine rn_iconst (v := nI 0) dX0_growBeside_33 (by decide) ?_
    refine rn_ireturn dX0_growBeside_34 rfl (by decide) ?_
    exact Or.inr ⟨by omega, rfl, rfl, rfl⟩
  · refine rn_aload_n dX0_growBeside_18 rfl rfl ?_
    refine rn_getI dX0_growBeside_19 fd_0_9 hd.1 hd.2.1 rfl ?_
    refine rn_top (y := nI w) (va) ?_
    refine rn_aload_n dX0_growBeside_22 rfl rfl ?_
    refine rn_getI dX0_growBeside_23 fd_0_9 hd0.1 hd0.2.1 rfl ?_
    refine rn_top (y := nI w0) (vc) ?_
    refine rn_iadd dX0_growBeside_26 ?_
    refine rn_top (nI_add _ _) ?_
    refine rn_callSNq (st := []) dX0_growBeside_27 cf_0_22 (c_X7_isDots S I _) (by decide) rfl rfl (Nat.le_of_ble_eq_true rfl) ?_
    refine rn_if_neB (tgt := 35) dX0_growBeside_30 (by decide) (fun c_30 => ?_) (fun c_30 => ?_)
    · have c_30' := of_decide_eq_true c_30
      rw [z_nI (by omega)] at c_30'
      refine rn_aload_n dX0_growBeside_35 rfl rfl ?_
      refine rn_dup dX0_growBeside_36 rfl ?_
      refine rn_getI dX0_growBeside_37 fd_0_9 hd.1 hd.2.1 rfl ?_
      refine rn_top (y := nI w) (va) ?_
      refine rn_aload_n dX0_growBeside_40 rfl rfl ?_
      refine rn_getI dX0_growBeside_41 fd_0_9 hd0.1 hd0.2.1 rfl ?_
      refine rn_top (y := nI w0) (vc) ?_
      refine rn_iadd dX0_growBeside_44 ?_
      refine rn_top (nI_add _ _) ?_
      refine rn_putI dX0_growBeside_45 fd_0_9 hd.1 hd.2.1 rfl rfl (vp_nar_int _) rfl ?_
      refine rn_aload_n dX0_growBeside_48 rfl rfl ?_
      refine rn_aload_n dX0_growBeside_49 rfl rfl ?_
      refine rn_iload_n dX0_growBeside_50 rfl rfl ?_
      refine rn_iconst (v := nI 0) dX0_growBeside_51 (by decide) ?_
      refine rn_callVq (st := []) dX0_growBeside_52 cf_0_68 (c_X0_layMirrors (w := w0) (h := h0) hd hd0 hne hq (by omega) (by omega) (by omega) (by omega) (I := (am_up I a 0 (nI (w + w0)))) (ri := 2 * w) (dj := 0) (w0 := w + w0) (h0 := h) (by first | exact va | (rw [am_up_at]) | (rw [am_up_k _ _ (by decide)]; exact va)) (by first | exact vb | (rw [am_up_at]) | (rw [am_up_k _ _ (by decide)]; exact vb)) (by first | exact vc | (rw [am_up_a _ _ hne]; exact vc)) (by first | exact vd | (rw [am_up_a _ _ hne]; exact vd)) (by omega) (by omega) (by omega) (by omega) (by omega) (by omega)) (by decide) hd.1 hd.2.1 rfl rfl (Nat.le_of_ble_eq_true rfl) ?_
      refine rn_iconst (v := nI 1) dX0_growBeside_55 (by decide) ?_
      refine rn_ireturn dX0_growBeside_56 rfl (by decide) ?_
      exact Or.inl ⟨by omega, rfl, rfl, rfl⟩
    · try have c_30' := of_decide_eq_false c_30
      try rw [z_nI (by omega)] at c_30'
      refine rn_iconst (v := nI 0) dX0_growBeside_33 (by decide) ?_
      refine rn_ireturn dX0_growBeside_34 rfl (by decide) ?_
      exact Or.inr ⟨by omega, rfl, rfl, rfl⟩
set_option maxHeartbeats 1000000 in
set_option maxRecDepth 100000 in
theorem c_X0_growBelow {S : am_S} {a q a0 q0 w h w0 h0 : Nat} (hd : am_dr S a q) (hd0 : am_dr S a0 q0) (hne : a0 ≠ a) (hq : q0 ≠ q) (w1 : 1 ≤ w) (w8 : w ≤ 8) (h1 : 1 ≤ h) (h8 : h ≤ 8) (w01 : 1 ≤ w0) (w08 : w0 ≤ 8) (h01 : 1 ≤ h0) (h08 : h0 ≤ 8) {I : am_I} (va : I a 0 = nI w) (vb : I a 1 = nI h) (vc : I a0 0 = nI w0) (vd : I a0 1 = nI h0) : am_Mt 3 Y_X0_growBelow (0, 0) [.ref a, .ref a0] S I (fun r S' I' => ((h + h0 ≤ 8 ∧ w = w0) ∧ r = some (.int (nI 1)) ∧ S' = S ∧ I' = (List.foldl (lyS q q0 (0) (2 * h)) (am_up I a 1 (nI (h + h0))) (pts w0 h0))) ∨ (¬ (h + h0 ≤ 8 ∧ w = w0) ∧ r = some (.int (nI 0)) ∧ S' = S ∧ I' = I)) := by
  refine am_mt ⟨by decide +kernel, rfl⟩ (Nat.le_of_ble_eq_true rfl) rfl ?_
  refine rn_iconst (v := nI 2) dX0_growBelow_0 (by decide) ?_
  refine rn_aload_n dX0_growBelow_1 rfl rfl ?_
  refine rn_getI dX0_growBelow_2 fd_0_15 hd.1 hd.2.1 rfl ?_
  refine rn_top (y := nI h) (vb) ?_
  refine rn_imul dX0_growBelow_5 ?_
  refine rn_top (pk_mul _ _) ?_
  refine rn_istore_n (ls' := [some (.ref a), some (.ref a0), some (.int (nI (2 * h)))]) dX0_growBelow_6 rfl (by decide) rfl rfl ?_
  refine rn_aload_n dX0_growBelow_7 rfl rfl ?_
  refine rn_getI dX0_growBelow_8 fd_0_9 hd.1 hd.2.1 rfl ?_
  refine rn_top (y := nI w) (va) ?_
  refine rn_aload_n dX0_growBelow_11 rfl rfl ?_
  refine rn_getI dX0_growBelow_12 fd_0_9 hd0.1 hd0.2.1 rfl ?_
  refine rn_top (y := nI w0) (vc) ?_
  refine rn_icmp_neN (tgt := 33) dX0_growBelow_15 (by decide) (by omega) (by omega) (fun c_15 => ?_) (fun c_15 => ?_)
  · try have c_30' := of_decide_eq_false c_30
    try rw [z_nI (by omega)] at c_30'
    refine rn_iconst (v := nI 0) dX0_growBelow_33 (by decide) ?_
    refine rn_ireturn dX0_growBelow_34 rfl (by decide) ?_
    exact Or.inr ⟨by omega, rfl, rfl, rfl⟩
  · refine rn_aload_n dX0_growBelow_18 rfl rfl ?_
    refine rn_getI dX0_growBelow_19 fd_0_15 hd.1 hd.2.1 rfl ?_
    refine rn_top (y := nI h) (vb) ?_
    refine rn_aload_n dX0_growBelow_22 rfl rfl ?_
    refine rn_getI dX0_growBelow_23 fd_0_15 hd0.1 hd0.2.1 rfl ?_
    refine rn_top (y := nI h0) (vd) ?_
    refine rn_iadd dX0_growBelow_26 ?_
    refine rn_top (nI_add _ _) ?_
    refine rn_callSNq (st := []) dX0_growBelow_27 cf_0_22 (c_X7_isDots S I _) (by decide) rfl rfl (Nat.le_of_ble_eq_true rfl) ?_
    refine rn_if_neB (tgt := 35) dX0_growBelow_30 (by decide) (fun c_30 => ?_) (fun c_30 => ?_)
    · have c_30' := of_decide_eq_true c_30
      rw [z_nI (by omega)] at c_30'
      refine rn_aload_n dX0_growBelow_35 rfl rfl ?_
      refine rn_dup dX0_growBelow_36 rfl ?_
      refine rn_getI dX0_growBelow_37 fd_0_15 hd.1 hd.2.1 rfl ?_
      refine rn_top (y := nI h) (vb) ?_
      refine rn_aload_n dX0_growBelow_40 rfl rfl ?_
      refine rn_getI dX0_growBelow_41 fd_0_15 hd0.1 hd0.2.1 rfl ?_
      refine rn_top (y := nI h0) (vd) ?_
      refine rn_iadd dX0_growBelow_44 ?_
      refine rn_top (nI_add _ _) ?_
      refine rn_putI dX0_growBelow_45 fd_0_15 hd.1 hd.2.1 rfl rfl (vp_nar_int _) rfl ?_
      refine rn_aload_n dX0_growBelow_48 rfl rfl ?_
      refine rn_aload_n dX0_growBelow_49 rfl rfl ?_
      refine rn_iconst (v := nI 0) dX0_growBelow_50 (by decide) ?_
      refine rn_iload_n dX0_growBelow_51 rfl rfl ?_
      refine rn_callVq (st := []) dX0_growBelow_52 cf_0_68 (c_X0_layMirrors (w := w0) (h := h0) hd hd0 hne hq (by omega) (by omega) (by omega) (by omega) (I := (am_up I a 1 (nI (h + h0)))) (ri := 0) (dj := 2 * h) (w0 := w) (h0 := h + h0) (by first | exact va | (rw [am_up_at]) | (rw [am_up_k _ _ (by decide)]; exact va)) (by first | exact vb | (rw [am_up_at]) | (rw [am_up_k _ _ (by decide)]; exact vb)) (by first | exact vc | (rw [am_up_a _ _ hne]; exact vc)) (by first | exact vd | (rw [am_up_a _ _ hne]; exact vd)) (by omega) (by omega) (by omega) (by omega) (by omega) (by omega)) (by decide) hd.1 hd.2.1 rfl rfl (Nat.le_of_ble_eq_true rfl) ?_
      refine rn_iconst (v := nI 1) dX0_growBelow_55 (by decide) ?_
      refine rn_ireturn dX0_growBelow_56 rfl (by decide) ?_
      exact Or.inl ⟨by omega, rfl, rfl, rfl⟩
    · try have c_30' := of_decide_eq_false c_30
      try rw [z_nI (by omega)] at c_30'
      refine rn_iconst (v := nI 0) dX0_growBelow_33 (by decide) ?_
      refine rn_ireturn dX0_growBelow_34 rfl (by decide) ?_
      exact Or.inr ⟨by omega, rfl, rfl, rfl⟩
set_option maxHeartbeats 1000000 in
set_option maxRecDepth 100000 in
theorem c_X0_coverWith {S : am_S} {a q a0 q0 w h w0 h0 : Nat} (hd : am_dr S a q) (hd0 : am_dr S a0 q0) (hne : a0 ≠ a) (hq : q0 ≠ q) (w1 : 1 ≤ w) (w8 : w ≤ 8) (h1 : 1 ≤ h) (h8 : h ≤ 8) (w01 : 1 ≤ w0) (w08 : w0 ≤ 8) (h01 : 1 ≤ h0) (h08 : h0 ≤ 8) {I : am_I} (va : I a 0 = nI w) (vb : I a 1 = nI h) (vc : I a0 0 = nI w0) (vd : I a0 1 = nI h0) : am_Mt 3 Y_X0_coverWith (0, 0) [.ref a, .ref a0] S I (fun r S' I' => ((w = w0 ∧ h = h0) ∧ r = some (.int (nI 1)) ∧ S' = S ∧ I' = (List.foldl (lyS q q0 (0) (0)) I (pts w0 h0))) ∨ (¬ (w = w0 ∧ h = h0) ∧ r = some (.int (nI 0)) ∧ S' = S ∧ I' = I)) := by
  refine am_mt ⟨by decide +kernel, rfl⟩ (Nat.le_of_ble_eq_true rfl) rfl ?_
  refine rn_aload_n dX0_coverWith_0 rfl rfl ?_
  refine rn_getI dX0_coverWith_1 fd_0_9 hd.1 hd.2.1 rfl ?_
  refine rn_top (y := nI w) (va) ?_
  refine rn_aload_n dX0_coverWith_4 rfl rfl ?_
  refine rn_getI dX0_coverWith_5 fd_0_9 hd0.1 hd0.2.1 rfl ?_
  refine rn_top (y := nI w0) (vc) ?_
  refine rn_icmp_neN (tgt := 22) dX0_coverWith_8 (by decide) (by omega) (by omega) (fun c_8 => ?_) (fun c_8 => ?_)
  · refine rn_iconst (v := nI 0) dX0_coverWith_22 (by decide) ?_
    refine rn_ireturn dX0_coverWith_23 rfl (by decide) ?_
    exact Or.inr ⟨by omega, rfl, rfl, rfl⟩
  · refine rn_aload_n dX0_coverWith_11 rfl rfl ?_
    refine rn_getI dX0_coverWith_12 fd_0_15 hd.1 hd.2.1 rfl ?_
    refine rn_top (y := nI h) (vb) ?_
    refine rn_aload_n dX0_coverWith_15 rfl rfl ?_
    refine rn_getI dX0_coverWith_16 fd_0_15 hd0.1 hd0.2.1 rfl ?_
    refine rn_top (y := nI h0) (vd) ?_
    refine rn_icmp_eqN (tgt := 24) dX0_coverWith_19 (by decide) (by omega) (by omega) (fun c_19 => ?_) (fun c_19 => ?_)
    · refine rn_aload_n dX0_coverWith_24 rfl rfl ?_
      refine rn_aload_n dX0_coverWith_25 rfl rfl ?_
      refine rn_iconst (v := nI 0) dX0_coverWith_26 (by decide) ?_
      refine rn_iconst (v := nI 0) dX0_coverWith_27 (by decide) ?_
      refine rn_callVq (st := []) dX0_coverWith_28 cf_0_68 (c_X0_layMirrors (w := w0) (h := h0) hd hd0 hne hq (by omega) (by omega) (by omega) (by omega) (I := I) (ri := 0) (dj := 0) (w0 := w) (h0 := h) (by first | exact va | (rw [am_up_at]) | (rw [am_up_k _ _ (by decide)]; exact va)) (by first | exact vb | (rw [am_up_at]) | (rw [am_up_k _ _ (by decide)]; exact vb)) (by first | exact vc | (rw [am_up_a _ _ hne]; exact vc)) (by first | exact vd | (rw [am_up_a _ _ hne]; exact vd)) (by omega) (by omega) (by omega) (by omega) (by omega) (by omega)) (by decide) hd.1 hd.2.1 rfl rfl (Nat.le_of_ble_eq_true rfl) ?_
      refine rn_iconst (v := nI 1) dX0_coverWith_31 (by decide) ?_
      refine rn_ireturn dX0_coverWith_32 rfl (by decide) ?_
      exact Or.inl ⟨by omega, rfl, rfl, rfl⟩
    · refine rn_iconst (v := nI 0) dX0_coverWith_22 (by decide) ?_
      refine rn_ireturn dX0_coverWith_23 rfl (by decide) ?_
      exact Or.inr ⟨by omega, rfl, rfl, rfl⟩
