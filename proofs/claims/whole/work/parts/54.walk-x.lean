/-- the drawing that a walk back tells, in the class's spare one -/
def WX (w h : Nat) (σ : wSt) (I : am_I) : Prop := isDr I 3 4 w h σ.1 ∧ isDr I 3 43 w h σ.2.1 ∧ I 41 0 = nI σ.2.2
def teF (I I' : am_I) : Prop := (∀ b, b ≠ 4 → b ≠ 41 → b ≠ 43 → I' b = I b) ∧ ∀ k, k ≠ 0 → I' 41 k = I 41 k
theorem WX.kept {w h : Nat} {σ : wSt} {I I' : am_I} (hW : WX w h σ I) (h3 : I' 3 = I 3) (h4 : I' 4 = I 4) (h43 : I' 43 = I 43) (h41 : I' 41 0 = I 41 0) : WX w h σ I' := ⟨hW.1.kept h3 h4, hW.2.1.kept h3 h43, h41.trans hW.2.2⟩
set_option maxHeartbeats 1000000 in
set_option maxRecDepth 100000 in
theorem c_X6_tellPoint {S : am_S} (hs : sk S) {I : am_I} {w h : Nat} (w1 : 1 ≤ w) (w8 : w ≤ 8) (h1 : 1 ≤ h) (h8 : h ≤ 8) {σ : wSt} (hW : WX w h σ I) (hT : ∀ i j, σ.2.1 i j ≤ 1) {i j c0 c : Nat} (hi : i ≤ 16) (hj : j ≤ 16) (hc : c < 256) (h4 : I 41 4 = sg (rt c0)) (h5 : I 41 5 = sg (dn c0)) (hcon : nInner w h i j = true → σ.2.1 i j ≠ 0 → σ.1 i j = tv c0 c) : am_Mt 2 Y_X6_tellPoint (0, 0) [.ref 41, .ref 3, .int (nI i), .int (nI j), .int (nI c)] S I (fun r S' I' => r = none ∧ S' = S ∧ teF I I' ∧ WX w h (tell w h σ (i, j) (tv c0 c)) I') := by
  refine am_mt ⟨by decide +kernel, rfl⟩ (Nat.le_of_ble_eq_true rfl) rfl ?_
  refine rn_aload_n dX6_tellPoint_0 rfl rfl ?_
  refine rn_iload_n dX6_tellPoint_1 rfl rfl ?_
  refine rn_iload_n dX6_tellPoint_2 rfl rfl ?_
  refine rn_callVq (st := []) dX6_tellPoint_3 cf_6_82 (c_X0_isInner (sk_d3 hs) hW.1.1 hW.1.2.1 w8 h8 _ _) (by omega) (sk_d3 hs).1 (sk_d3 hs).2.1 rfl rfl (Nat.le_of_ble_eq_true rfl) ?_
  refine rn_if_neB (tgt := 10) dX6_tellPoint_6 (by decide) (fun c_6 => ?_) (fun c_6 => ?_)
  · have hin : nInner w h i j = true := by rw [← pInner_nI (by omega) (by omega)]; exact c_6
    have hij := nIn.mp hin
    have hs1 := hT i j
    refine rn_iconst (v := nI 0) dX6_tellPoint_10 (by decide) ?_
    refine rn_istore (ls' := [some (.ref 41), some (.ref 3), some (.int (nI i)), some (.int (nI j)), some (.int (nI c)), some (.int (nI 0)), none]) dX6_tellPoint_11 (by decide) rfl rfl ?_
    refine rn_aload_n dX6_tellPoint_13 rfl rfl ?_
    refine rn_getI dX6_tellPoint_14 fd_6_76 (sk_l hs 41 (by decide)) (sk_k41 hs) rfl ?_
    refine rn_top (y := sg (rt c0)) (h4) ?_
    refine rn_iload dX6_tellPoint_17 rfl ?_
    refine rn_callSq (st := [.int (sg (rt c0))]) dX6_tellPoint_19 cf_6_48 (m_rightOf _ _ (by omega)) (by omega) rfl rfl (Nat.le_of_ble_eq_true rfl) ?_
    refine rn_icmp_eq (tgt := 31) dX6_tellPoint_22 (by decide) (fun c_22 => ?_) (fun c_22 => ?_)
    · refine rn_aload_n dX6_tellPoint_31 rfl rfl ?_
      refine rn_getI dX6_tellPoint_32 fd_6_79 (sk_l hs 41 (by decide)) (sk_k41 hs) rfl ?_
      refine rn_top (y := sg (dn c0)) (h5) ?_
      refine rn_iload dX6_tellPoint_35 rfl ?_
      refine rn_callSq (st := [.int (sg (dn c0))]) dX6_tellPoint_37 cf_6_51 (m_downOf _ _ (by omega)) (by omega) rfl rfl (Nat.le_of_ble_eq_true rfl) ?_
      refine rn_icmp_eq (tgt := 46) dX6_tellPoint_40 (by decide) (fun c_40 => ?_) (fun c_40 => ?_)
      · refine rn_aload_n dX6_tellPoint_46 rfl rfl ?_
        refine rn_iload_n dX6_tellPoint_47 rfl rfl ?_
        refine rn_iload_n dX6_tellPoint_48 rfl rfl ?_
        refine rn_iload dX6_tellPoint_49 rfl ?_
        refine rn_callV0 (st := []) dX6_tellPoint_51 cf_6_85 (c_X0_put (sk_d3 hs) hW.1.1 hW.1.2.1 w8 h8 hin _) (by omega) (sk_d3 hs).1 (sk_d3 hs).2.1 rfl rfl (Nat.le_of_ble_eq_true rfl) (fun r1 S1 I1 hq => ?_)
        obtain ⟨rfl, rfl, hI1⟩ := hq
        have h410 : I1 41 0 = nI σ.2.2 := by rw [hI1, am_up_a _ _ (by decide)]; exact hW.2.2
        refine rn_iload_n dX6_tellPoint_54 rfl rfl ?_
        refine rn_iload_n dX6_tellPoint_55 rfl rfl ?_
        refine rn_callSNq (st := []) dX6_tellPoint_56 cf_6_89 (c_X7_placeOf _ _ (by omega)) (by omega) rfl rfl (Nat.le_of_ble_eq_true rfl) ?_
        refine rn_istore (ls' := [some (.ref 41), some (.ref 3), some (.int (nI i)), some (.int (nI j)), some (.int (nI c)), some (.int (nI 0)), some (.int (nI (8 * j + i / 2)))]) dX6_tellPoint_59 (by decide) rfl rfl ?_
        refine rn_aload_n dX6_tellPoint_61 rfl rfl ?_
        refine rn_getR (r := 43) dX6_tellPoint_62 fd_6_15 (sk_l hs 41 (by decide)) (sk_k41 hs) rfl (sk_r41_3 hs) ?_
        refine rn_iload dX6_tellPoint_65 rfl ?_
        refine rn_ialoadN dX6_tellPoint_67 (sk_l hs 43 (by decide)) (sk_k43 hs) (by omega) (by omega) ?_
        refine rn_top (y := nI (σ.2.1 i j)) (by rw [hI1, am_up_a _ _ (by decide)]; exact isDr.at hW.2.1 w8 h8 hin) ?_
        refine rn_if_neN (tgt := 89) dX6_tellPoint_68 (by decide) (by omega) (fun c_68 => ?_) (fun c_68 => ?_)
        · refine rn_return dX6_tellPoint_89 rfl ?_
          have hv : tv c0 c = 0 := (if_pos (sg_inj.mp c_22)).trans (if_pos (sg_inj.mp c_40))
          have hD1 : isDr I1 3 4 w h (upM σ.1 (i, j) 0) := by rw [hI1]; exact isDr_up (by decide) w8 h8 hW.1 hin 0
          have o1 : ∀ b, b ≠ 4 → I1 b = I b := fun b hb => by rw [hI1, am_up_a _ _ hb]
          have ht : tell w h σ (i, j) (tv c0 c) = σ := if_neg (fun q => c_68 q.2)
          rw [ht]
          refine ⟨rfl, rfl, ⟨fun b h9 _ _ => o1 b h9, fun k _ => by rw [o1 41 (by decide)]⟩, ?_, hW.2.1.kept (o1 3 (by decide)) (o1 43 (by decide)), by rw [o1 41 (by decide)]; exact hW.2.2⟩
          refine isDr.congr hD1 (fun a b _ => ?_)
          unfold upM
          by_cases hq : a = (i, j).1 ∧ b = (i, j).2
          · rw [if_pos hq, hq.1, hq.2, ← hv]; exact (hcon hin c_68).symm
          · rw [if_neg hq]
        · refine rn_aload_n dX6_tellPoint_71 rfl rfl ?_
          refine rn_getR (r := 43) dX6_tellPoint_72 fd_6_15 (sk_l hs 41 (by decide)) (sk_k41 hs) rfl (sk_r41_3 hs) ?_
          refine rn_iload dX6_tellPoint_75 rfl ?_
          refine rn_iconst (v := nI 1) dX6_tellPoint_77 (by decide) ?_
          refine rn_iastoreN dX6_tellPoint_78 (sk_l hs 43 (by decide)) (sk_k43 hs) (by omega) (by omega) ?_
          refine rn_aload_n dX6_tellPoint_79 rfl rfl ?_
          refine rn_dup dX6_tellPoint_80 rfl ?_
          refine rn_getI dX6_tellPoint_81 fd_6_33 (sk_l hs 41 (by decide)) (sk_k41 hs) rfl ?_
          refine rn_top (y := nI σ.2.2) (by have h9 := h410; simp [am_up, va_up, h9]) ?_
          refine rn_iconst (v := nI 1) dX6_tellPoint_84 (by decide) ?_
          refine rn_iadd dX6_tellPoint_85 ?_
          refine rn_top (nI_add _ _) ?_
          refine rn_putI dX6_tellPoint_86 fd_6_33 (sk_l hs 41 (by decide)) (sk_k41 hs) rfl rfl (vp_nar_int _) rfl ?_
          refine rn_return dX6_tellPoint_89 rfl ?_
          have hv : tv c0 c = 0 := (if_pos (sg_inj.mp c_22)).trans (if_pos (sg_inj.mp c_40))
          have hD1 : isDr I1 3 4 w h (upM σ.1 (i, j) 0) := by rw [hI1]; exact isDr_up (by decide) w8 h8 hW.1 hin 0
          have o1 : ∀ b, b ≠ 4 → I1 b = I b := fun b hb => by rw [hI1, am_up_a _ _ hb]
          have ht : tell w h σ (i, j) (tv c0 c) = (upM σ.1 (i, j) (tv c0 c), upM σ.2.1 (i, j) 1, σ.2.2 + 1) := if_pos ⟨hin, c_68⟩
          rw [ht, hv]
          refine ⟨rfl, rfl, ⟨fun b h9 h8 h7 => by rw [am_up_a _ _ h8, am_up_a _ _ h7]; exact o1 b h9, fun k hk => by rw [am_up_k _ _ hk, am_up_a _ _ (by decide), o1 41 (by decide)]⟩, hD1.kept (by rw [am_up_a _ _ (by decide), am_up_a _ _ (by decide)]) (by rw [am_up_a _ _ (by decide), am_up_a _ _ (by decide)]), ?_, by rw [am_up_at]⟩
          have q := isDr_up (by decide : (3 : Nat) ≠ 43) w8 h8 (hW.2.1.kept (o1 3 (by decide)) (o1 43 (by decide))) hin 1
          exact q.kept (am_up_a _ _ (by decide)) (am_up_a _ _ (by decide))
      · refine rn_iconst (v := nI 2) dX6_tellPoint_43 (by decide) ?_
        refine rn_istore (ls' := [some (.ref 41), some (.ref 3), some (.int (nI i)), some (.int (nI j)), some (.int (nI c)), some (.int (nI 2)), none]) dX6_tellPoint_44 (by decide) rfl rfl ?_
        refine rn_aload_n dX6_tellPoint_46 rfl rfl ?_
        refine rn_iload_n dX6_tellPoint_47 rfl rfl ?_
        refine rn_iload_n dX6_tellPoint_48 rfl rfl ?_
        refine rn_iload dX6_tellPoint_49 rfl ?_
        refine rn_callV0 (st := []) dX6_tellPoint_51 cf_6_85 (c_X0_put (sk_d3 hs) hW.1.1 hW.1.2.1 w8 h8 hin _) (by omega) (sk_d3 hs).1 (sk_d3 hs).2.1 rfl rfl (Nat.le_of_ble_eq_true rfl) (fun r1 S1 I1 hq => ?_)
        obtain ⟨rfl, rfl, hI1⟩ := hq
        have h410 : I1 41 0 = nI σ.2.2 := by rw [hI1, am_up_a _ _ (by decide)]; exact hW.2.2
        refine rn_iload_n dX6_tellPoint_54 rfl rfl ?_
        refine rn_iload_n dX6_tellPoint_55 rfl rfl ?_
        refine rn_callSNq (st := []) dX6_tellPoint_56 cf_6_89 (c_X7_placeOf _ _ (by omega)) (by omega) rfl rfl (Nat.le_of_ble_eq_true rfl) ?_
        refine rn_istore (ls' := [some (.ref 41), some (.ref 3), some (.int (nI i)), some (.int (nI j)), some (.int (nI c)), some (.int (nI 2)), some (.int (nI (8 * j + i / 2)))]) dX6_tellPoint_59 (by decide) rfl rfl ?_
        refine rn_aload_n dX6_tellPoint_61 rfl rfl ?_
        refine rn_getR (r := 43) dX6_tellPoint_62 fd_6_15 (sk_l hs 41 (by decide)) (sk_k41 hs) rfl (sk_r41_3 hs) ?_
        refine rn_iload dX6_tellPoint_65 rfl ?_
        refine rn_ialoadN dX6_tellPoint_67 (sk_l hs 43 (by decide)) (sk_k43 hs) (by omega) (by omega) ?_
        refine rn_top (y := nI (σ.2.1 i j)) (by rw [hI1, am_up_a _ _ (by decide)]; exact isDr.at hW.2.1 w8 h8 hin) ?_
        refine rn_if_neN (tgt := 89) dX6_tellPoint_68 (by decide) (by omega) (fun c_68 => ?_) (fun c_68 => ?_)
        · refine rn_return dX6_tellPoint_89 rfl ?_
          have hv : tv c0 c = 2 := (if_pos (sg_inj.mp c_22)).trans (if_neg (fun q => c_40 (sg_inj.mpr q)))
          have hD1 : isDr I1 3 4 w h (upM σ.1 (i, j) 2) := by rw [hI1]; exact isDr_up (by decide) w8 h8 hW.1 hin 2
          have o1 : ∀ b, b ≠ 4 → I1 b = I b := fun b hb => by rw [hI1, am_up_a _ _ hb]
          have ht : tell w h σ (i, j) (tv c0 c) = σ := if_neg (fun q => c_68 q.2)
          rw [ht]
          refine ⟨rfl, rfl, ⟨fun b h9 _ _ => o1 b h9, fun k _ => by rw [o1 41 (by decide)]⟩, ?_, hW.2.1.kept (o1 3 (by decide)) (o1 43 (by decide)), by rw [o1 41 (by decide)]; exact hW.2.2⟩
          refine isDr.congr hD1 (fun a b _ => ?_)
          unfold upM
          by_cases hq : a = (i, j).1 ∧ b = (i, j).2
          · rw [if_pos hq, hq.1, hq.2, ← hv]; exact (hcon hin c_68).symm
          · rw [if_neg hq]
        · refine rn_aload_n dX6_tellPoint_71 rfl rfl ?_
          refine rn_getR (r := 43) dX6_tellPoint_72 fd_6_15 (sk_l hs 41 (by decide)) (sk_k41 hs) rfl (sk_r41_3 hs) ?_
          refine rn_iload dX6_tellPoint_75 rfl ?_
          refine rn_iconst (v := nI 1) dX6_tellPoint_77 (by decide) ?_
          refine rn_iastoreN dX6_tellPoint_78 (sk_l hs 43 (by decide)) (sk_k43 hs) (by omega) (by omega) ?_
          refine rn_aload_n dX6_tellPoint_79 rfl rfl ?_
          refine rn_dup dX6_tellPoint_80 rfl ?_
          refine rn_getI dX6_tellPoint_81 fd_6_33 (sk_l hs 41 (by decide)) (sk_k41 hs) rfl ?_
          refine rn_top (y := nI σ.2.2) (by have h9 := h410; simp [am_up, va_up, h9]) ?_
          refine rn_iconst (v := nI 1) dX6_tellPoint_84 (by decide) ?_
          refine rn_iadd dX6_tellPoint_85 ?_
          refine rn_top (nI_add _ _) ?_
          refine rn_putI dX6_tellPoint_86 fd_6_33 (sk_l hs 41 (by decide)) (sk_k41 hs) rfl rfl (vp_nar_int _) rfl ?_
          refine rn_return dX6_tellPoint_89 rfl ?_
          have hv : tv c0 c = 2 := (if_pos (sg_inj.mp c_22)).trans (if_neg (fun q => c_40 (sg_inj.mpr q)))
          have hD1 : isDr I1 3 4 w h (upM σ.1 (i, j) 2) := by rw [hI1]; exact isDr_up (by decide) w8 h8 hW.1 hin 2
          have o1 : ∀ b, b ≠ 4 → I1 b = I b := fun b hb => by rw [hI1, am_up_a _ _ hb]
          have ht : tell w h σ (i, j) (tv c0 c) = (upM σ.1 (i, j) (tv c0 c), upM σ.2.1 (i, j) 1, σ.2.2 + 1) := if_pos ⟨hin, c_68⟩
          rw [ht, hv]
          refine ⟨rfl, rfl, ⟨fun b h9 h8 h7 => by rw [am_up_a _ _ h8, am_up_a _ _ h7]; exact o1 b h9, fun k hk => by rw [am_up_k _ _ hk, am_up_a _ _ (by decide), o1 41 (by decide)]⟩, hD1.kept (by rw [am_up_a _ _ (by decide), am_up_a _ _ (by decide)]) (by rw [am_up_a _ _ (by decide), am_up_a _ _ (by decide)]), ?_, by rw [am_up_at]⟩
          have q := isDr_up (by decide : (3 : Nat) ≠ 43) w8 h8 (hW.2.1.kept (o1 3 (by decide)) (o1 43 (by decide))) hin 1
          exact q.kept (am_up_a _ _ (by decide)) (am_up_a _ _ (by decide))
    · refine rn_iconst (v := nI 1) dX6_tellPoint_25 (by decide) ?_
      refine rn_istore (ls' := [some (.ref 41), some (.ref 3), some (.int (nI i)), some (.int (nI j)), some (.int (nI c)), some (.int (nI 1)), none]) dX6_tellPoint_26 (by decide) rfl rfl ?_
      refine rn_goto (tgt := 46) dX6_tellPoint_28 (by decide) ?_
      refine rn_aload_n dX6_tellPoint_46 rfl rfl ?_
      refine rn_iload_n dX6_tellPoint_47 rfl rfl ?_
      refine rn_iload_n dX6_tellPoint_48 rfl rfl ?_
      refine rn_iload dX6_tellPoint_49 rfl ?_
      refine rn_callV0 (st := []) dX6_tellPoint_51 cf_6_85 (c_X0_put (sk_d3 hs) hW.1.1 hW.1.2.1 w8 h8 hin _) (by omega) (sk_d3 hs).1 (sk_d3 hs).2.1 rfl rfl (Nat.le_of_ble_eq_true rfl) (fun r1 S1 I1 hq => ?_)
      obtain ⟨rfl, rfl, hI1⟩ := hq
      have h410 : I1 41 0 = nI σ.2.2 := by rw [hI1, am_up_a _ _ (by decide)]; exact hW.2.2
      refine rn_iload_n dX6_tellPoint_54 rfl rfl ?_
      refine rn_iload_n dX6_tellPoint_55 rfl rfl ?_
      refine rn_callSNq (st := []) dX6_tellPoint_56 cf_6_89 (c_X7_placeOf _ _ (by omega)) (by omega) rfl rfl (Nat.le_of_ble_eq_true rfl) ?_
      refine rn_istore (ls' := [some (.ref 41), some (.ref 3), some (.int (nI i)), some (.int (nI j)), some (.int (nI c)), some (.int (nI 1)), some (.int (nI (8 * j + i / 2)))]) dX6_tellPoint_59 (by decide) rfl rfl ?_
      refine rn_aload_n dX6_tellPoint_61 rfl rfl ?_
      refine rn_getR (r := 43) dX6_tellPoint_62 fd_6_15 (sk_l hs 41 (by decide)) (sk_k41 hs) rfl (sk_r41_3 hs) ?_
      refine rn_iload dX6_tellPoint_65 rfl ?_
      refine rn_ialoadN dX6_tellPoint_67 (sk_l hs 43 (by decide)) (sk_k43 hs) (by omega) (by omega) ?_
      refine rn_top (y := nI (σ.2.1 i j)) (by rw [hI1, am_up_a _ _ (by decide)]; exact isDr.at hW.2.1 w8 h8 hin) ?_
      refine rn_if_neN (tgt := 89) dX6_tellPoint_68 (by decide) (by omega) (fun c_68 => ?_) (fun c_68 => ?_)
      · refine rn_return dX6_tellPoint_89 rfl ?_
        have hv : tv c0 c = 1 := if_neg (fun q => c_22 (sg_inj.mpr q))
        have hD1 : isDr I1 3 4 w h (upM σ.1 (i, j) 1) := by rw [hI1]; exact isDr_up (by decide) w8 h8 hW.1 hin 1
        have o1 : ∀ b, b ≠ 4 → I1 b = I b := fun b hb => by rw [hI1, am_up_a _ _ hb]
        have ht : tell w h σ (i, j) (tv c0 c) = σ := if_neg (fun q => c_68 q.2)
        rw [ht]
        refine ⟨rfl, rfl, ⟨fun b h9 _ _ => o1 b h9, fun k _ => by rw [o1 41 (by decide)]⟩, ?_, hW.2.1.kept (o1 3 (by decide)) (o1 43 (by decide)), by rw [o1 41 (by decide)]; exact hW.2.2⟩
        refine isDr.congr hD1 (fun a b _ => ?_)
        unfold upM
        by_cases hq : a = (i, j).1 ∧ b = (i, j).2
        · rw [if_pos hq, hq.1, hq.2, ← hv]; exact (hcon hin c_68).symm
        · rw [if_neg hq]
      · refine rn_aload_n dX6_tellPoint_71 rfl rfl ?_
        refine rn_getR (r := 43) dX6_tellPoint_72 fd_6_15 (sk_l hs 41 (by decide)) (sk_k41 hs) rfl (sk_r41_3 hs) ?_
        refine rn_iload dX6_tellPoint_75 rfl ?_
        refine rn_iconst (v := nI 1) dX6_tellPoint_77 (by decide) ?_
        refine rn_iastoreN dX6_tellPoint_78 (sk_l hs 43 (by decide)) (sk_k43 hs) (by omega) (by omega) ?_
        refine rn_aload_n dX6_tellPoint_79 rfl rfl ?_
        refine rn_dup dX6_tellPoint_80 rfl ?_
        refine rn_getI dX6_tellPoint_81 fd_6_33 (sk_l hs 41 (by decide)) (sk_k41 hs) rfl ?_
        refine rn_top (y := nI σ.2.2) (by have h9 := h410; simp [am_up, va_up, h9]) ?_
        refine rn_iconst (v := nI 1) dX6_tellPoint_84 (by decide) ?_
        refine rn_iadd dX6_tellPoint_85 ?_
        refine rn_top (nI_add _ _) ?_
        refine rn_putI dX6_tellPoint_86 fd_6_33 (sk_l hs 41 (by decide)) (sk_k41 hs) rfl rfl (vp_nar_int _) rfl ?_
        refine rn_return dX6_tellPoint_89 rfl ?_
        have hv : tv c0 c = 1 := if_neg (fun q => c_22 (sg_inj.mpr q))
        have hD1 : isDr I1 3 4 w h (upM σ.1 (i, j) 1) := by rw [hI1]; exact isDr_up (by decide) w8 h8 hW.1 hin 1
        have o1 : ∀ b, b ≠ 4 → I1 b = I b := fun b hb => by rw [hI1, am_up_a _ _ hb]
        have ht : tell w h σ (i, j) (tv c0 c) = (upM σ.1 (i, j) (tv c0 c), upM σ.2.1 (i, j) 1, σ.2.2 + 1) := if_pos ⟨hin, c_68⟩
        rw [ht, hv]
        refine ⟨rfl, rfl, ⟨fun b h9 h8 h7 => by rw [am_up_a _ _ h8, am_up_a _ _ h7]; exact o1 b h9, fun k hk => by rw [am_up_k _ _ hk, am_up_a _ _ (by decide), o1 41 (by decide)]⟩, hD1.kept (by rw [am_up_a _ _ (by decide), am_up_a _ _ (by decide)]) (by rw [am_up_a _ _ (by decide), am_up_a _ _ (by decide)]), ?_, by rw [am_up_at]⟩
        have q := isDr_up (by decide : (3 : Nat) ≠ 43) w8 h8 (hW.2.1.kept (o1 3 (by decide)) (o1 43 (by decide))) hin 1
        exact q.kept (am_up_a _ _ (by decide)) (am_up_a _ _ (by decide))
  · refine rn_return dX6_tellPoint_9 rfl ?_
    have ht : tell w h σ (i, j) (tv c0 c) = σ := if_neg (fun q => absurd c_6 (by rw [pInner_nI (by omega) (by omega), q.1]; decide))
    rw [ht]
    exact ⟨rfl, rfl, ⟨fun _ _ _ _ => rfl, fun _ _ => rfl⟩, hW⟩
/-- the class while it walks back: what stays since the tape's reading began -/
def CF (I J : am_I) : Prop := (∀ b, b ≠ 4 → b ≠ 16 → b ≠ 41 → b ≠ 42 → b ≠ 43 → J b = I b) ∧ J 16 0 = I 16 0 ∧ J 16 1 = nI 1 ∧ J 16 2 = nI 0 ∧ J 16 3 = -1
theorem CF.o {I J K : am_I} (h : CF I J) (hb : ∀ b, b ≠ 4 → b ≠ 41 → b ≠ 42 → b ≠ 43 → K b = J b) : CF I K := ⟨fun b h1 h2 h3 h4 h5 => (hb b h1 h3 h4 h5).trans (h.1 b h1 h2 h3 h4 h5), by rw [hb 16 (by decide) (by decide) (by decide) (by decide)]; exact h.2.1, by rw [hb 16 (by decide) (by decide) (by decide) (by decide)]; exact h.2.2.1, by rw [hb 16 (by decide) (by decide) (by decide) (by decide)]; exact h.2.2.2.1, by rw [hb 16 (by decide) (by decide) (by decide) (by decide)]; exact h.2.2.2.2⟩
theorem CF.tx {I J : am_I} {n : Nat} {B : Nat → Nat} (h : CF I J) (hT : tX n B I) : tX n B J := hT.frame h.2.1 (h.1 17 (by decide) (by decide) (by decide) (by decide) (by decide))
set_option maxHeartbeats 1000000 in
set_option maxRecDepth 100000 in
theorem c_X6_readInto {S : am_S} (hs : sk S) {I : am_I} {w h : Nat} (w1 : 1 ≤ w) (w8 : w ≤ 8) (h1 : 1 ≤ h) (h8 : h ≤ 8) {n : Nat} {B : Nat → Nat} (hT : tX n B I) (hB : okB n B) {i0 j0 : Nat} (hi : i0 ≤ 2 * w) (hj : j0 ≤ 2 * h) (hij : (i0 + j0) % 2 = 1) (hD : isDr I 3 4 w h zM) : am_Mt 3 Y_X6_readInto (0, 0) [.ref 41, .ref 3, .int (nI i0), .int (nI j0)] S I (fun r S' I' => S' = S ∧ (∀ b, b ≠ 4 → b ≠ 16 → b ≠ 41 → b ≠ 42 → b ≠ 43 → I' b = I b) ∧ I' 16 0 = I 16 0 ∧ I' 16 1 = nI 1 ∧ ((∃ e, wR w h B i0 j0 n = .inl e ∧ r = some (.int (nI 0)) ∧ I' 16 2 = nI e.1 ∧ I' 16 3 = nI e.2) ∨ ∃ σ, wR w h B i0 j0 n = .inr σ ∧ r = some (.int (nI 1)) ∧ I' 16 2 = nI 0 ∧ I' 16 3 = -1 ∧ isDr I' 3 4 w h σ.1 ∧ I' 41 0 = nI σ.2.2)) := by
  have h200 := hB.1
  have EX : ∀ J : am_I, CF I J → wE w h B i0 j0 n = none → WX w h (wT w h B i0 j0 n) J → (0 < n → J 41 4 = sg (rt (B (n - 1))) ∧ J 41 5 = sg (dn (B (n - 1)))) → am_Rn 3 Y_X6_readInto (0, 0) 237 [some (.ref 41), some (.ref 3), some (.int (nI i0)), some (.int (nI j0)), some (.int (nI ((wP B i0 j0 n).1))), some (.int (nI ((wP B i0 j0 n).2))), some (.int (nI n)), none, none, none, none] [] S J (fun r S' I' => S' = S ∧ (∀ b, b ≠ 4 → b ≠ 16 → b ≠ 41 → b ≠ 42 → b ≠ 43 → I' b = I b) ∧ I' 16 0 = I 16 0 ∧ I' 16 1 = nI 1 ∧ ((∃ e, wR w h B i0 j0 n = .inl e ∧ r = some (.int (nI 0)) ∧ I' 16 2 = nI e.1 ∧ I' 16 3 = nI e.2) ∨ ∃ σ, wR w h B i0 j0 n = .inr σ ∧ r = some (.int (nI 1)) ∧ I' 16 2 = nI 0 ∧ I' 16 3 = -1 ∧ isDr I' 3 4 w h σ.1 ∧ I' 41 0 = nI σ.2.2)) := by
    intro J hF hE hW hR
    have hpp := wP_in hi hj hij hE
    refine rn_aload_n dX6_readInto_237 rfl rfl ?_
    refine rn_getR (r := 16) dX6_readInto_238 fd_6_18 (sk_l hs 41 (by decide)) (sk_k41 hs) rfl (sk_r41_1 hs) ?_
    refine rn_getI dX6_readInto_241 fd_6_37 (sk_l hs 16 (by decide)) (sk_k16 hs) rfl ?_
    refine rn_top (y := nI n) (hF.2.1.trans hT.1) ?_
    refine rn_if_eqN (tgt := 259) dX6_readInto_244 (by decide) (by omega) (fun c_244 => ?_) (fun c_244 => ?_)
    · refine rn_aload_n dX6_readInto_259 rfl rfl ?_
      refine rn_getR (r := 16) dX6_readInto_260 fd_6_18 (sk_l hs 41 (by decide)) (sk_k41 hs) rfl (sk_r41_1 hs) ?_
      refine rn_iconst (v := nI 4) dX6_readInto_263 (by decide) ?_
      refine rn_aload_n dX6_readInto_264 rfl rfl ?_
      refine rn_getR (r := 16) dX6_readInto_265 fd_6_18 (sk_l hs 41 (by decide)) (sk_k41 hs) rfl (sk_r41_1 hs) ?_
      refine rn_getI dX6_readInto_268 fd_6_37 (sk_l hs 16 (by decide)) (sk_k16 hs) rfl ?_
      refine rn_top (y := nI n) (hF.2.1.trans hT.1) ?_
      refine rn_callVq (st := []) dX6_readInto_271 cf_6_44 (c_X3_fail hs _ _) (by omega) (sk_l hs 16 (by decide)) (sk_k16 hs) rfl rfl (Nat.le_of_ble_eq_true rfl) ?_
      refine rn_ireturn dX6_readInto_274 rfl (by decide) ?_
      exact ⟨rfl, fun b h1 h2 h3 h4 h5 => by rw [am_up_a _ _ h2, am_up_a _ _ h2]; exact hF.1 b h1 h2 h3 h4 h5, by rw [am_up_k _ _ (by decide), am_up_k _ _ (by decide)]; exact hF.2.1, by rw [am_up_k _ _ (by decide), am_up_k _ _ (by decide)]; exact hF.2.2.1, Or.inl ⟨(4, n), wR_4 hE (by first | exact Or.inl c_244 | exact Or.inr (fun q => c_250 (congrArg Prod.fst q)) | exact Or.inr (fun q => c_256 (congrArg Prod.snd q))), rfl, by rw [am_up_k _ _ (by decide), am_up_at], by rw [am_up_at]⟩⟩
    · refine rn_iload dX6_readInto_247 rfl ?_
      refine rn_iload_n dX6_readInto_249 rfl rfl ?_
      refine rn_icmp_neN (tgt := 259) dX6_readInto_250 (by decide) (by omega) (by omega) (fun c_250 => ?_) (fun c_250 => ?_)
      · refine rn_aload_n dX6_readInto_259 rfl rfl ?_
        refine rn_getR (r := 16) dX6_readInto_260 fd_6_18 (sk_l hs 41 (by decide)) (sk_k41 hs) rfl (sk_r41_1 hs) ?_
        refine rn_iconst (v := nI 4) dX6_readInto_263 (by decide) ?_
        refine rn_aload_n dX6_readInto_264 rfl rfl ?_
        refine rn_getR (r := 16) dX6_readInto_265 fd_6_18 (sk_l hs 41 (by decide)) (sk_k41 hs) rfl (sk_r41_1 hs) ?_
        refine rn_getI dX6_readInto_268 fd_6_37 (sk_l hs 16 (by decide)) (sk_k16 hs) rfl ?_
        refine rn_top (y := nI n) (hF.2.1.trans hT.1) ?_
        refine rn_callVq (st := []) dX6_readInto_271 cf_6_44 (c_X3_fail hs _ _) (by omega) (sk_l hs 16 (by decide)) (sk_k16 hs) rfl rfl (Nat.le_of_ble_eq_true rfl) ?_
        refine rn_ireturn dX6_readInto_274 rfl (by decide) ?_
        exact ⟨rfl, fun b h1 h2 h3 h4 h5 => by rw [am_up_a _ _ h2, am_up_a _ _ h2]; exact hF.1 b h1 h2 h3 h4 h5, by rw [am_up_k _ _ (by decide), am_up_k _ _ (by decide)]; exact hF.2.1, by rw [am_up_k _ _ (by decide), am_up_k _ _ (by decide)]; exact hF.2.2.1, Or.inl ⟨(4, n), wR_4 hE (by first | exact Or.inl c_244 | exact Or.inr (fun q => c_250 (congrArg Prod.fst q)) | exact Or.inr (fun q => c_256 (congrArg Prod.snd q))), rfl, by rw [am_up_k _ _ (by decide), am_up_at], by rw [am_up_at]⟩⟩
      · refine rn_iload dX6_readInto_253 rfl ?_
        refine rn_iload_n dX6_readInto_255 rfl rfl ?_
        refine rn_icmp_eqN (tgt := 275) dX6_readInto_256 (by decide) (by omega) (by omega) (fun c_256 => ?_) (fun c_256 => ?_)
        · refine rn_aload_n dX6_readInto_275 rfl rfl ?_
          refine rn_aload_n dX6_readInto_276 rfl rfl ?_
          refine rn_iload dX6_readInto_277 rfl ?_
          refine rn_iload dX6_readInto_279 rfl ?_
          refine rn_aload_n dX6_readInto_281 rfl rfl ?_
          refine rn_getR (r := 16) dX6_readInto_282 fd_6_18 (sk_l hs 41 (by decide)) (sk_k41 hs) rfl (sk_r41_1 hs) ?_
          refine rn_iconst (v := nI 0) dX6_readInto_285 (by decide) ?_
          refine rn_callVq (st := [.int (nI ((wP B i0 j0 n).2)), .int (nI ((wP B i0 j0 n).1)), .ref 3, .ref 41]) dX6_readInto_286 cf_6_40 (c_X3_byteV hs (hF.tx hT) hB (by decide)) (by omega) (sk_l hs 16 (by decide)) (sk_k16 hs) rfl rfl (Nat.le_of_ble_eq_true rfl) ?_
          refine rn_top (y := nI (B 0)) (bV_in (by omega)) ?_
          refine rn_callV0 (st := []) dX6_readInto_289 cf_6_72 (c_X6_tellPoint hs w1 w8 h1 h8 hW wT_of.1 (by omega) (by omega) (hB.2 _ (by omega)) (hR (by omega)).1 (hR (by omega)).2 (fun _ h9 => wT_fin hE (Prod.ext c_250 c_256) h9)) (by omega) (sk_l hs 41 (by decide)) (sk_k41 hs) rfl rfl (Nat.le_of_ble_eq_true rfl) (fun r1 S1 J2 hq => ?_)
          obtain ⟨rfl, rfl, hb2, hW2⟩ := hq
          refine rn_iconst (v := nI 1) dX6_readInto_292 (by decide) ?_
          refine rn_ireturn dX6_readInto_293 rfl (by decide) ?_
          have hF2 := hF.o (K := J2) (fun b h1 h2 _ h4 => hb2.1 b h1 h2 h4)
          exact ⟨rfl, hF2.1, hF2.2.1, hF2.2.2.1, Or.inr ⟨_, wR_r hE (fun q => q.elim c_244 (fun q9 => q9 (Prod.ext c_250 c_256))), rfl, hF2.2.2.2.1, hF2.2.2.2.2, hW2.1, hW2.2.2⟩⟩
        · refine rn_aload_n dX6_readInto_259 rfl rfl ?_
          refine rn_getR (r := 16) dX6_readInto_260 fd_6_18 (sk_l hs 41 (by decide)) (sk_k41 hs) rfl (sk_r41_1 hs) ?_
          refine rn_iconst (v := nI 4) dX6_readInto_263 (by decide) ?_
          refine rn_aload_n dX6_readInto_264 rfl rfl ?_
          refine rn_getR (r := 16) dX6_readInto_265 fd_6_18 (sk_l hs 41 (by decide)) (sk_k41 hs) rfl (sk_r41_1 hs) ?_
          refine rn_getI dX6_readInto_268 fd_6_37 (sk_l hs 16 (by decide)) (sk_k16 hs) rfl ?_
          refine rn_top (y := nI n) (hF.2.1.trans hT.1) ?_
          refine rn_callVq (st := []) dX6_readInto_271 cf_6_44 (c_X3_fail hs _ _) (by omega) (sk_l hs 16 (by decide)) (sk_k16 hs) rfl rfl (Nat.le_of_ble_eq_true rfl) ?_
          refine rn_ireturn dX6_readInto_274 rfl (by decide) ?_
          exact ⟨rfl, fun b h1 h2 h3 h4 h5 => by rw [am_up_a _ _ h2, am_up_a _ _ h2]; exact hF.1 b h1 h2 h3 h4 h5, by rw [am_up_k _ _ (by decide), am_up_k _ _ (by decide)]; exact hF.2.1, by rw [am_up_k _ _ (by decide), am_up_k _ _ (by decide)]; exact hF.2.2.1, Or.inl ⟨(4, n), wR_4 hE (by first | exact Or.inl c_244 | exact Or.inr (fun q => c_250 (congrArg Prod.fst q)) | exact Or.inr (fun q => c_256 (congrArg Prod.snd q))), rfl, by rw [am_up_k _ _ (by decide), am_up_at], by rw [am_up_at]⟩⟩
  have LP : ∀ k, k ≤ n → ∀ J : am_I, CF I J → wE w h B i0 j0 k = none → WX w h (wT w h B i0 j0 k) J → (∀ x, x < 256 → J 42 x = am_b (wG w B i0 j0 k x)) → (0 < k → J 41 4 = sg (rt (B (k - 1))) ∧ J 41 5 = sg (dn (B (k - 1)))) → am_Rn 3 Y_X6_readInto (0, 0) 37 [some (.ref 41), some (.ref 3), some (.int (nI i0)), some (.int (nI j0)), some (.int (nI ((wP B i0 j0 k).1))), some (.int (nI ((wP B i0 j0 k).2))), some (.int (nI k)), none, none, none, none] [] S J (fun r S' I' => S' = S ∧ (∀ b, b ≠ 4 → b ≠ 16 → b ≠ 41 → b ≠ 42 → b ≠ 43 → I' b = I b) ∧ I' 16 0 = I 16 0 ∧ I' 16 1 = nI 1 ∧ ((∃ e, wR w h B i0 j0 n = .inl e ∧ r = some (.int (nI 0)) ∧ I' 16 2 = nI e.1 ∧ I' 16 3 = nI e.2) ∨ ∃ σ, wR w h B i0 j0 n = .inr σ ∧ r = some (.int (nI 1)) ∧ I' 16 2 = nI 0 ∧ I' 16 3 = -1 ∧ isDr I' 3 4 w h σ.1 ∧ I' 41 0 = nI σ.2.2)) := by
    refine am_loop n (fun k hk ih => ?_)
    intro J hF hE hW hG hR
    have hpp := wP_in hi hj hij hE
    refine rn_iload dX6_readInto_37 rfl ?_
    refine rn_aload_n dX6_readInto_39 rfl rfl ?_
    refine rn_getR (r := 16) dX6_readInto_40 fd_6_18 (sk_l hs 41 (by decide)) (sk_k41 hs) rfl (sk_r41_1 hs) ?_
    refine rn_getI dX6_readInto_43 fd_6_37 (sk_l hs 16 (by decide)) (sk_k16 hs) rfl ?_
    refine rn_top (y := nI n) (hF.2.1.trans hT.1) ?_
    refine rn_icmp_geN (tgt := 237) dX6_readInto_46 (by decide) (by omega) (by omega) (fun c_46 => ?_) (fun c_46 => ?_)
    · obtain rfl : k = n := by omega
      exact EX J hF hE hW hR
    · refine rn_aload_n dX6_readInto_49 rfl rfl ?_
      refine rn_getR (r := 16) dX6_readInto_50 fd_6_18 (sk_l hs 41 (by decide)) (sk_k41 hs) rfl (sk_r41_1 hs) ?_
      refine rn_iload dX6_readInto_53 rfl ?_
      refine rn_callVq (st := []) dX6_readInto_55 cf_6_40 (c_X3_byteV hs (hF.tx hT) hB (by omega)) (by omega) (sk_l hs 16 (by decide)) (sk_k16 hs) rfl rfl (Nat.le_of_ble_eq_true rfl) ?_
      refine rn_top (y := nI (B k)) (bV_in c_46) ?_
      refine rn_istore (ls' := [some (.ref 41), some (.ref 3), some (.int (nI i0)), some (.int (nI j0)), some (.int (nI ((wP B i0 j0 k).1))), some (.int (nI ((wP B i0 j0 k).2))), some (.int (nI k)), some (.int (nI (B k))), none, none, none]) dX6_readInto_58 (by decide) rfl rfl ?_
      have hbk := hB.2 k c_46
      refine rn_iload dX6_readInto_60 rfl ?_
      refine rn_bipush (v := nI 97) dX6_readInto_62 (by decide) ?_
      refine rn_icmp_ltN (tgt := 74) dX6_readInto_64 (by decide) (by omega) (by omega) (fun c_64 => ?_) (fun c_64 => ?_)
      · refine rn_aload_n dX6_readInto_74 rfl rfl ?_
        refine rn_getR (r := 16) dX6_readInto_75 fd_6_18 (sk_l hs 41 (by decide)) (sk_k41 hs) rfl (sk_r41_1 hs) ?_
        refine rn_iconst (v := nI 1) dX6_readInto_78 (by decide) ?_
        refine rn_iload dX6_readInto_79 rfl ?_
        refine rn_callVq (st := []) dX6_readInto_81 cf_6_44 (c_X3_fail hs _ _) (by omega) (sk_l hs 16 (by decide)) (sk_k16 hs) rfl rfl (Nat.le_of_ble_eq_true rfl) ?_
        refine rn_ireturn dX6_readInto_84 rfl (by decide) ?_
        exact ⟨rfl, fun b h1 h2 h3 h4 h5 => by rw [am_up_a _ _ h2, am_up_a _ _ h2]; exact hF.1 b h1 h2 h3 h4 h5, by rw [am_up_k _ _ (by decide), am_up_k _ _ (by decide)]; exact hF.2.1, by rw [am_up_k _ _ (by decide), am_up_k _ _ (by decide)]; exact hF.2.2.1, Or.inl ⟨(1, k), wR_e (wE_at hE c_46 (wK_1 (fun q => by omega)) (by decide)), rfl, by rw [am_up_k _ _ (by decide), am_up_at], by rw [am_up_at]⟩⟩
      · refine rn_iload dX6_readInto_67 rfl ?_
        refine rn_bipush (v := nI 100) dX6_readInto_69 (by decide) ?_
        refine rn_icmp_leN (tgt := 85) dX6_readInto_71 (by decide) (by omega) (by omega) (fun c_71 => ?_) (fun c_71 => ?_)
        · have h97 : 97 ≤ B k ∧ B k ≤ 100 := ⟨by omega, by omega⟩
          refine rn_iload dX6_readInto_85 rfl ?_
          refine rn_iload dX6_readInto_87 rfl ?_
          refine rn_callSq (st := [.int (nI ((wP B i0 j0 k).1))]) dX6_readInto_89 cf_6_48 (m_rightOf _ _ (by omega)) (by omega) rfl rfl (Nat.le_of_ble_eq_true rfl) ?_
          refine rn_iadd dX6_readInto_92 ?_
          refine rn_istore (ls' := [some (.ref 41), some (.ref 3), some (.int (nI i0)), some (.int (nI j0)), some (.int (nI ((wP B i0 j0 k).1))), some (.int (nI ((wP B i0 j0 k).2))), some (.int (nI k)), some (.int (nI (B k))), some (.int ((nI ((wP B i0 j0 k).1)) + (sg (rt (B k))))), none, none]) dX6_readInto_93 (by decide) rfl rfl ?_
          refine rn_iload dX6_readInto_95 rfl ?_
          refine rn_iload dX6_readInto_97 rfl ?_
          refine rn_callSq (st := [.int (nI ((wP B i0 j0 k).2))]) dX6_readInto_99 cf_6_51 (m_downOf _ _ (by omega)) (by omega) rfl rfl (Nat.le_of_ble_eq_true rfl) ?_
          refine rn_iadd dX6_readInto_102 ?_
          refine rn_istore (ls' := [some (.ref 41), some (.ref 3), some (.int (nI i0)), some (.int (nI j0)), some (.int (nI ((wP B i0 j0 k).1))), some (.int (nI ((wP B i0 j0 k).2))), some (.int (nI k)), some (.int (nI (B k))), some (.int ((nI ((wP B i0 j0 k).1)) + (sg (rt (B k))))), some (.int ((nI ((wP B i0 j0 k).2)) + (sg (dn (B k))))), none]) dX6_readInto_103 (by decide) rfl rfl ?_
          refine rn_aload_n dX6_readInto_105 rfl rfl ?_
          refine rn_iload dX6_readInto_106 rfl ?_
          refine rn_iload dX6_readInto_108 rfl ?_
          refine rn_callVq (st := []) dX6_readInto_110 cf_6_54 (c_X0_isPoint (sk_d3 hs) hW.1.1 hW.1.2.1 w8 h8 _ _) (by omega) (sk_d3 hs).1 (sk_d3 hs).2.1 rfl rfl (Nat.le_of_ble_eq_true rfl) ?_
          refine rn_top (y := am_b (inS (rt (B k)) (wP B i0 j0 k).1 (2 * w) && inS (dn (B k)) (wP B i0 j0 k).2 (2 * h))) (congrArg am_b (pPoint_mv w8 h8 hpp.1 hpp.2.1 hpp.2.2)) ?_
          refine rn_if_neB (tgt := 127) dX6_readInto_113 (by decide) (fun c_113 => ?_) (fun c_113 => ?_)
          · have h23 := Bool.and_eq_true_iff.mp c_113
            have h2 := h23.1
            have h3 := h23.2
            have hQ4 := wQ_b hpp.1 hpp.2.1 h2 h3
            have hb4 : 4 * w * h ≤ 256 := Nat.le_trans (Nat.mul_le_mul (Nat.mul_le_mul_left 4 w8) h8) (by decide)
            have hQ : wQ w B i0 j0 k < 256 := by omega
            refine rn_iconst (v := nI 2) dX6_readInto_127 (by decide) ?_
            refine rn_aload_n dX6_readInto_128 rfl rfl ?_
            refine rn_getI dX6_readInto_129 fd_6_59 (sk_d3 hs).1 (sk_d3 hs).2.1 rfl ?_
            refine rn_top (y := nI w) (hW.1.1) ?_
            refine rn_imul dX6_readInto_132 ?_
            refine rn_top (pk_mul _ _) ?_
            refine rn_iload dX6_readInto_133 rfl ?_
            refine rn_iload dX6_readInto_135 rfl ?_
            refine rn_min dX6_readInto_137 ma_6_62 (by decide) (Nat.le_of_ble_eq_true rfl) ?_
            refine rn_top (y := nI (lw (dn (B k)) (wP B i0 j0 k).2)) (min_lw h3 (by omega)) ?_
            refine rn_imul dX6_readInto_140 ?_
            refine rn_top (pk_mul _ _) ?_
            refine rn_iload dX6_readInto_141 rfl ?_
            refine rn_iload dX6_readInto_143 rfl ?_
            refine rn_min dX6_readInto_145 ma_6_62 (by decide) (Nat.le_of_ble_eq_true rfl) ?_
            refine rn_top (y := nI (lw (rt (B k)) (wP B i0 j0 k).1)) (min_lw h2 (by omega)) ?_
            refine rn_iadd dX6_readInto_148 ?_
            refine rn_top (nI_add _ _) ?_
            refine rn_top (y := nI (wQ w B i0 j0 k)) (rfl) ?_
            refine rn_istore (ls' := [some (.ref 41), some (.ref 3), some (.int (nI i0)), some (.int (nI j0)), some (.int (nI ((wP B i0 j0 k).1))), some (.int (nI ((wP B i0 j0 k).2))), some (.int (nI k)), some (.int (nI (B k))), some (.int ((nI ((wP B i0 j0 k).1)) + (sg (rt (B k))))), some (.int ((nI ((wP B i0 j0 k).2)) + (sg (dn (B k))))), some (.int (nI (wQ w B i0 j0 k)))]) dX6_readInto_149 (by decide) rfl rfl ?_
            refine rn_aload_n dX6_readInto_151 rfl rfl ?_
            refine rn_iload dX6_readInto_152 rfl ?_
            refine rn_callVq (st := []) dX6_readInto_154 cf_6_68 (c_X0_isSquare (sk_d3 hs) hW.1.1 hW.1.2.1 w8 h8 _) (by omega) (sk_d3 hs).1 (sk_d3 hs).2.1 rfl rfl (Nat.le_of_ble_eq_true rfl) ?_
            refine rn_if_eqB (tgt := 170) dX6_readInto_157 (by decide) (fun c_157 => ?_) (fun c_157 => ?_)
            · exact absurd (by rw [z_nI (by omega)]; omega) (of_decide_eq_false c_157)
            · refine rn_aload_n dX6_readInto_160 rfl rfl ?_
              refine rn_getR (r := 42) dX6_readInto_161 fd_6_9 (sk_l hs 41 (by decide)) (sk_k41 hs) rfl (sk_r41_2 hs) ?_
              refine rn_iload dX6_readInto_164 rfl ?_
              refine rn_ialoadN dX6_readInto_166 (sk_l hs 42 (by decide)) (sk_k42 hs) (by omega) (by omega) ?_
              refine rn_top (y := am_b (wG w B i0 j0 k (wQ w B i0 j0 k))) (hG _ hQ) ?_
              refine rn_if_eqB (tgt := 181) dX6_readInto_167 (by decide) (fun c_167 => ?_) (fun c_167 => ?_)
              · have hE1 : wE w h B i0 j0 (k + 1) = none := by rw [wE_s hE, if_pos (wK_z h97 h2 h3 c_167)]
                refine rn_aload_n dX6_readInto_181 rfl rfl ?_
                refine rn_getR (r := 42) dX6_readInto_182 fd_6_9 (sk_l hs 41 (by decide)) (sk_k41 hs) rfl (sk_r41_2 hs) ?_
                refine rn_iload dX6_readInto_185 rfl ?_
                refine rn_iconst (v := nI 1) dX6_readInto_187 (by decide) ?_
                refine rn_iastoreN dX6_readInto_188 (sk_l hs 42 (by decide)) (sk_k42 hs) (by omega) (by omega) ?_
                refine rn_iload dX6_readInto_189 rfl ?_
                refine rn_if_leN (tgt := 205) dX6_readInto_191 (by decide) (by omega) (fun c_191 => ?_) (fun c_191 => ?_)
                · refine rn_aload_n dX6_readInto_205 rfl rfl ?_
                  refine rn_iload dX6_readInto_206 rfl ?_
                  refine rn_callSq (st := [.ref 41]) dX6_readInto_208 cf_6_48 (m_rightOf _ _ (by omega)) (by omega) rfl rfl (Nat.le_of_ble_eq_true rfl) ?_
                  refine rn_putI dX6_readInto_211 fd_6_76 (sk_l hs 41 (by decide)) (sk_k41 hs) rfl rfl (vp_nar_int _) rfl ?_
                  refine rn_aload_n dX6_readInto_214 rfl rfl ?_
                  refine rn_iload dX6_readInto_215 rfl ?_
                  refine rn_callSq (st := [.ref 41]) dX6_readInto_217 cf_6_51 (m_downOf _ _ (by omega)) (by omega) rfl rfl (Nat.le_of_ble_eq_true rfl) ?_
                  refine rn_putI dX6_readInto_220 fd_6_79 (sk_l hs 41 (by decide)) (sk_k41 hs) rfl rfl (vp_nar_int _) rfl ?_
                  refine rn_iload dX6_readInto_223 rfl ?_
                  refine rn_top (y := nI (mv (rt (B k)) ((wP B i0 j0 k).1))) (sg_mv h2) ?_
                  refine rn_istore (ls' := [some (.ref 41), some (.ref 3), some (.int (nI i0)), some (.int (nI j0)), some (.int (nI (mv (rt (B k)) ((wP B i0 j0 k).1)))), some (.int (nI ((wP B i0 j0 k).2))), some (.int (nI k)), some (.int (nI (B k))), some (.int ((nI ((wP B i0 j0 k).1)) + (sg (rt (B k))))), some (.int ((nI ((wP B i0 j0 k).2)) + (sg (dn (B k))))), some (.int (nI (wQ w B i0 j0 k)))]) dX6_readInto_225 (by decide) rfl rfl ?_
                  refine rn_iload dX6_readInto_227 rfl ?_
                  refine rn_top (y := nI (mv (dn (B k)) ((wP B i0 j0 k).2))) (sg_mv h3) ?_
                  refine rn_istore (ls' := [some (.ref 41), some (.ref 3), some (.int (nI i0)), some (.int (nI j0)), some (.int (nI (mv (rt (B k)) ((wP B i0 j0 k).1)))), some (.int (nI (mv (dn (B k)) ((wP B i0 j0 k).2)))), some (.int (nI k)), some (.int (nI (B k))), some (.int ((nI ((wP B i0 j0 k).1)) + (sg (rt (B k))))), some (.int ((nI ((wP B i0 j0 k).2)) + (sg (dn (B k))))), some (.int (nI (wQ w B i0 j0 k)))]) dX6_readInto_229 (by decide) rfl rfl ?_
                  refine rn_iinc (v := nI (k + 1)) (ls' := [some (.ref 41), some (.ref 3), some (.int (nI i0)), some (.int (nI j0)), some (.int (nI (mv (rt (B k)) ((wP B i0 j0 k).1)))), some (.int (nI (mv (dn (B k)) ((wP B i0 j0 k).2)))), some (.int (nI (k + 1))), some (.int (nI (B k))), some (.int ((nI ((wP B i0 j0 k).1)) + (sg (rt (B k))))), some (.int ((nI ((wP B i0 j0 k).2)) + (sg (dn (B k))))), some (.int (nI (wQ w B i0 j0 k)))]) dX6_readInto_231 rfl (nI_add _ 1) (by decide) rfl rfl ?_
                  refine rn_goto (tgt := 37) dX6_readInto_234 (by decide) ?_
                  refine rn_ls (ls' := [some (.ref 41), some (.ref 3), some (.int (nI i0)), some (.int (nI j0)), some (.int (nI (mv (rt (B k)) ((wP B i0 j0 k).1)))), some (.int (nI (mv (dn (B k)) ((wP B i0 j0 k).2)))), some (.int (nI (k + 1))), none, none, none, none]) rfl (fun i x h => by rcases i with _ | _ | _ | _ | _ | _ | _ | _ | _ | _ | _ | i <;> first | exact h | (simp at h)) ?_
                  have o42 : (am_up J 42 (wQ w B i0 j0 k) (nI 1)) 42 = am_up J 42 (wQ w B i0 j0 k) (nI 1) 42 := rfl
                  refine ih c_46 _ (hF.o (fun b h1 h2 h3 h4 => by rw [am_up_a _ _ h2, am_up_a _ _ h2, am_up_a _ _ h3])) hE1 (WX.kept (I := (am_up J 42 (wQ w B i0 j0 k) (nI 1))) ?_ (by rw [am_up_a _ _ (by decide), am_up_a _ _ (by decide)]) (by rw [am_up_a _ _ (by decide), am_up_a _ _ (by decide)]) (by rw [am_up_a _ _ (by decide), am_up_a _ _ (by decide)]) (by rw [am_up_k _ _ (by decide), am_up_k _ _ (by decide)])) (fun x hx => wG_up (v := nI 1) rfl (fun h9 => by rw [am_up_a _ _ (by decide), am_up_a _ _ (by decide), o42, am_up_k _ _ h9]; exact hG x hx) (fun h9 => by rw [am_up_a _ _ (by decide), am_up_a _ _ (by decide), o42, h9, am_up_at]) rfl) (fun _ => ⟨by rw [am_up_k _ _ (by decide), am_up_at]; rfl, by rw [am_up_at]; rfl⟩)
                  have hk0 : k = 0 := c_191
                  subst hk0
                  exact hW.kept (am_up_a _ _ (by decide)) (am_up_a _ _ (by decide)) (am_up_a _ _ (by decide)) (by rw [am_up_a _ _ (by decide)])
                · refine rn_aload_n dX6_readInto_194 rfl rfl ?_
                  refine rn_aload_n dX6_readInto_195 rfl rfl ?_
                  refine rn_iload dX6_readInto_196 rfl ?_
                  refine rn_iload dX6_readInto_198 rfl ?_
                  refine rn_iload dX6_readInto_200 rfl ?_
                  refine rn_callV0 (st := []) dX6_readInto_202 cf_6_72 (c_X6_tellPoint hs w1 w8 h1 h8 (hW.kept (am_up_a _ _ (by decide)) (am_up_a _ _ (by decide)) (am_up_a _ _ (by decide)) (by rw [am_up_a _ _ (by decide)])) wT_of.1 (by omega) (by omega) hbk (by rw [am_up_a _ _ (by decide)]; exact (hR c_191).1) (by rw [am_up_a _ _ (by decide)]; exact (hR c_191).2) (fun _ h9 => wT_con hE1 h9)) (by omega) (sk_l hs 41 (by decide)) (sk_k41 hs) rfl rfl (Nat.le_of_ble_eq_true rfl) (fun r1 S1 J2 hq => ?_)
                  obtain ⟨rfl, rfl, hb2, hW2⟩ := hq
                  refine rn_aload_n dX6_readInto_205 rfl rfl ?_
                  refine rn_iload dX6_readInto_206 rfl ?_
                  refine rn_callSq (st := [.ref 41]) dX6_readInto_208 cf_6_48 (m_rightOf _ _ (by omega)) (by omega) rfl rfl (Nat.le_of_ble_eq_true rfl) ?_
                  refine rn_putI dX6_readInto_211 fd_6_76 (sk_l hs 41 (by decide)) (sk_k41 hs) rfl rfl (vp_nar_int _) rfl ?_
                  refine rn_aload_n dX6_readInto_214 rfl rfl ?_
                  refine rn_iload dX6_readInto_215 rfl ?_
                  refine rn_callSq (st := [.ref 41]) dX6_readInto_217 cf_6_51 (m_downOf _ _ (by omega)) (by omega) rfl rfl (Nat.le_of_ble_eq_true rfl) ?_
                  refine rn_putI dX6_readInto_220 fd_6_79 (sk_l hs 41 (by decide)) (sk_k41 hs) rfl rfl (vp_nar_int _) rfl ?_
                  refine rn_iload dX6_readInto_223 rfl ?_
                  refine rn_top (y := nI (mv (rt (B k)) ((wP B i0 j0 k).1))) (sg_mv h2) ?_
                  refine rn_istore (ls' := [some (.ref 41), some (.ref 3), some (.int (nI i0)), some (.int (nI j0)), some (.int (nI (mv (rt (B k)) ((wP B i0 j0 k).1)))), some (.int (nI ((wP B i0 j0 k).2))), some (.int (nI k)), some (.int (nI (B k))), some (.int ((nI ((wP B i0 j0 k).1)) + (sg (rt (B k))))), some (.int ((nI ((wP B i0 j0 k).2)) + (sg (dn (B k))))), some (.int (nI (wQ w B i0 j0 k)))]) dX6_readInto_225 (by decide) rfl rfl ?_
                  refine rn_iload dX6_readInto_227 rfl ?_
                  refine rn_top (y := nI (mv (dn (B k)) ((wP B i0 j0 k).2))) (sg_mv h3) ?_
                  refine rn_istore (ls' := [some (.ref 41), some (.ref 3), some (.int (nI i0)), some (.int (nI j0)), some (.int (nI (mv (rt (B k)) ((wP B i0 j0 k).1)))), some (.int (nI (mv (dn (B k)) ((wP B i0 j0 k).2)))), some (.int (nI k)), some (.int (nI (B k))), some (.int ((nI ((wP B i0 j0 k).1)) + (sg (rt (B k))))), some (.int ((nI ((wP B i0 j0 k).2)) + (sg (dn (B k))))), some (.int (nI (wQ w B i0 j0 k)))]) dX6_readInto_229 (by decide) rfl rfl ?_
                  refine rn_iinc (v := nI (k + 1)) (ls' := [some (.ref 41), some (.ref 3), some (.int (nI i0)), some (.int (nI j0)), some (.int (nI (mv (rt (B k)) ((wP B i0 j0 k).1)))), some (.int (nI (mv (dn (B k)) ((wP B i0 j0 k).2)))), some (.int (nI (k + 1))), some (.int (nI (B k))), some (.int ((nI ((wP B i0 j0 k).1)) + (sg (rt (B k))))), some (.int ((nI ((wP B i0 j0 k).2)) + (sg (dn (B k))))), some (.int (nI (wQ w B i0 j0 k)))]) dX6_readInto_231 rfl (nI_add _ 1) (by decide) rfl rfl ?_
                  refine rn_goto (tgt := 37) dX6_readInto_234 (by decide) ?_
                  refine rn_ls (ls' := [some (.ref 41), some (.ref 3), some (.int (nI i0)), some (.int (nI j0)), some (.int (nI (mv (rt (B k)) ((wP B i0 j0 k).1)))), some (.int (nI (mv (dn (B k)) ((wP B i0 j0 k).2)))), some (.int (nI (k + 1))), none, none, none, none]) rfl (fun i x h => by rcases i with _ | _ | _ | _ | _ | _ | _ | _ | _ | _ | _ | i <;> first | exact h | (simp at h)) ?_
                  have o42 : J2 42 = am_up J 42 (wQ w B i0 j0 k) (nI 1) 42 := hb2.1 42 (by decide) (by decide) (by decide)
                  refine ih c_46 _ (hF.o (fun b h1 h2 h3 h4 => by rw [am_up_a _ _ h2, am_up_a _ _ h2, hb2.1 b h1 h2 h4, am_up_a _ _ h3])) hE1 (WX.kept (I := J2) ?_ (by rw [am_up_a _ _ (by decide), am_up_a _ _ (by decide)]) (by rw [am_up_a _ _ (by decide), am_up_a _ _ (by decide)]) (by rw [am_up_a _ _ (by decide), am_up_a _ _ (by decide)]) (by rw [am_up_k _ _ (by decide), am_up_k _ _ (by decide)])) (fun x hx => wG_up (v := nI 1) rfl (fun h9 => by rw [am_up_a _ _ (by decide), am_up_a _ _ (by decide), o42, am_up_k _ _ h9]; exact hG x hx) (fun h9 => by rw [am_up_a _ _ (by decide), am_up_a _ _ (by decide), o42, h9, am_up_at]) rfl) (fun _ => ⟨by rw [am_up_k _ _ (by decide), am_up_at]; rfl, by rw [am_up_at]; rfl⟩)
                  rw [wT_s (by omega)]; exact hW2
              · refine rn_aload_n dX6_readInto_170 rfl rfl ?_
                refine rn_getR (r := 16) dX6_readInto_171 fd_6_18 (sk_l hs 41 (by decide)) (sk_k41 hs) rfl (sk_r41_1 hs) ?_
                refine rn_iconst (v := nI 3) dX6_readInto_174 (by decide) ?_
                refine rn_iload dX6_readInto_175 rfl ?_
                refine rn_callVq (st := []) dX6_readInto_177 cf_6_44 (c_X3_fail hs _ _) (by omega) (sk_l hs 16 (by decide)) (sk_k16 hs) rfl rfl (Nat.le_of_ble_eq_true rfl) ?_
                refine rn_ireturn dX6_readInto_180 rfl (by decide) ?_
                exact ⟨rfl, fun b h1 h2 h3 h4 h5 => by rw [am_up_a _ _ h2, am_up_a _ _ h2]; exact hF.1 b h1 h2 h3 h4 h5, by rw [am_up_k _ _ (by decide), am_up_k _ _ (by decide)]; exact hF.2.1, by rw [am_up_k _ _ (by decide), am_up_k _ _ (by decide)]; exact hF.2.2.1, Or.inl ⟨(3, k), wR_e (wE_at hE c_46 (wK_3 h97 h2 h3 c_167) (by decide)), rfl, by rw [am_up_k _ _ (by decide), am_up_at], by rw [am_up_at]⟩⟩
          · refine rn_aload_n dX6_readInto_116 rfl rfl ?_
            refine rn_getR (r := 16) dX6_readInto_117 fd_6_18 (sk_l hs 41 (by decide)) (sk_k41 hs) rfl (sk_r41_1 hs) ?_
            refine rn_iconst (v := nI 2) dX6_readInto_120 (by decide) ?_
            refine rn_iload dX6_readInto_121 rfl ?_
            refine rn_callVq (st := []) dX6_readInto_123 cf_6_44 (c_X3_fail hs _ _) (by omega) (sk_l hs 16 (by decide)) (sk_k16 hs) rfl rfl (Nat.le_of_ble_eq_true rfl) ?_
            refine rn_ireturn dX6_readInto_126 rfl (by decide) ?_
            exact ⟨rfl, fun b h1 h2 h3 h4 h5 => by rw [am_up_a _ _ h2, am_up_a _ _ h2]; exact hF.1 b h1 h2 h3 h4 h5, by rw [am_up_k _ _ (by decide), am_up_k _ _ (by decide)]; exact hF.2.1, by rw [am_up_k _ _ (by decide), am_up_k _ _ (by decide)]; exact hF.2.2.1, Or.inl ⟨(2, k), wR_e (wE_at hE c_46 (wK_2 h97 (fun q => absurd c_113 (by rw [q.1, q.2]; decide))) (by decide)), rfl, by rw [am_up_k _ _ (by decide), am_up_at], by rw [am_up_at]⟩⟩
        · refine rn_aload_n dX6_readInto_74 rfl rfl ?_
          refine rn_getR (r := 16) dX6_readInto_75 fd_6_18 (sk_l hs 41 (by decide)) (sk_k41 hs) rfl (sk_r41_1 hs) ?_
          refine rn_iconst (v := nI 1) dX6_readInto_78 (by decide) ?_
          refine rn_iload dX6_readInto_79 rfl ?_
          refine rn_callVq (st := []) dX6_readInto_81 cf_6_44 (c_X3_fail hs _ _) (by omega) (sk_l hs 16 (by decide)) (sk_k16 hs) rfl rfl (Nat.le_of_ble_eq_true rfl) ?_
          refine rn_ireturn dX6_readInto_84 rfl (by decide) ?_
          exact ⟨rfl, fun b h1 h2 h3 h4 h5 => by rw [am_up_a _ _ h2, am_up_a _ _ h2]; exact hF.1 b h1 h2 h3 h4 h5, by rw [am_up_k _ _ (by decide), am_up_k _ _ (by decide)]; exact hF.2.1, by rw [am_up_k _ _ (by decide), am_up_k _ _ (by decide)]; exact hF.2.2.1, Or.inl ⟨(1, k), wR_e (wE_at hE c_46 (wK_1 (fun q => by omega)) (by decide)), rfl, by rw [am_up_k _ _ (by decide), am_up_at], by rw [am_up_at]⟩⟩
  refine am_mt ⟨by decide +kernel, rfl⟩ (Nat.le_of_ble_eq_true rfl) rfl ?_
  refine rn_aload_n dX6_readInto_0 rfl rfl ?_
  refine rn_getR (r := 16) dX6_readInto_1 fd_6_18 (sk_l hs 41 (by decide)) (sk_k41 hs) rfl (sk_r41_1 hs) ?_
  refine rn_callVq (st := []) dX6_readInto_4 cf_6_22 (c_X3_beginReading hs) (by omega) (sk_l hs 16 (by decide)) (sk_k16 hs) rfl rfl (Nat.le_of_ble_eq_true rfl) ?_
  refine rn_aload_n dX6_readInto_7 rfl rfl ?_
  refine rn_getR (r := 42) dX6_readInto_8 fd_6_9 (sk_l hs 41 (by decide)) (sk_k41 hs) rfl (sk_r41_2 hs) ?_
  refine rn_iconst (v := nI 0) dX6_readInto_11 (by decide) ?_
  refine rn_callSq (st := []) dX6_readInto_12 cf_6_27 (c_J7_fill _ _ (nI 0) (sk_l hs 42 (by decide)) (sk_k42 hs) (by decide)) (by omega) rfl rfl (Nat.le_of_ble_eq_true rfl) ?_
  refine rn_aload_n dX6_readInto_15 rfl rfl ?_
  refine rn_getR (r := 43) dX6_readInto_16 fd_6_15 (sk_l hs 41 (by decide)) (sk_k41 hs) rfl (sk_r41_3 hs) ?_
  refine rn_iconst (v := nI 0) dX6_readInto_19 (by decide) ?_
  refine rn_callSq (st := []) dX6_readInto_20 cf_6_27 (c_J7_fill _ _ (nI 0) (sk_l hs 43 (by decide)) (sk_k43 hs) (by decide)) (by omega) rfl rfl (Nat.le_of_ble_eq_true rfl) ?_
  refine rn_aload_n dX6_readInto_23 rfl rfl ?_
  refine rn_iconst (v := nI 0) dX6_readInto_24 (by decide) ?_
  refine rn_putI dX6_readInto_25 fd_6_33 (sk_l hs 41 (by decide)) (sk_k41 hs) rfl rfl (vp_nar_int _) rfl ?_
  obtain ⟨J, hJ⟩ : ∃ J9 : am_I, J9 = am_up (va_up (va_up (am_up (am_up (am_up I 16 1 (nI 1)) 16 2 (nI 0)) 16 3 (-1)) 42 (am_fl 256 (nI 0) ((am_up (am_up (am_up I 16 1 (nI 1)) 16 2 (nI 0)) 16 3 (-1)) 42))) 43 (am_fl 128 (nI 0) ((va_up (am_up (am_up (am_up I 16 1 (nI 1)) 16 2 (nI 0)) 16 3 (-1)) 42 (am_fl 256 (nI 0) ((am_up (am_up (am_up I 16 1 (nI 1)) 16 2 (nI 0)) 16 3 (-1)) 42))) 43))) 41 0 (nI 0) := ⟨_, rfl⟩
  refine rn_I hJ.symm ?_
  have ob : ∀ b, b ≠ 16 → b ≠ 41 → b ≠ 42 → b ≠ 43 → J b = I b := fun b h1 h2 h3 h4 => by rw [hJ, am_up_a _ _ h2, va_up_o _ _ h4, va_up_o _ _ h3, am_up_a _ _ h1, am_up_a _ _ h1, am_up_a _ _ h1]
  have o16 : J 16 = (am_up (am_up (am_up I 16 1 (nI 1)) 16 2 (nI 0)) 16 3 (-1)) 16 := by rw [hJ, am_up_a _ _ (by decide), va_up_o _ _ (by decide), va_up_o _ _ (by decide)]
  have hF : CF I J := ⟨fun b h1 h2 h3 h4 h5 => ob b h2 h3 h4 h5, by rw [o16, am_up_k _ _ (by decide), am_up_k _ _ (by decide), am_up_k _ _ (by decide)], by rw [o16, am_up_k _ _ (by decide), am_up_k _ _ (by decide), am_up_at], by rw [o16, am_up_k _ _ (by decide), am_up_at], by rw [o16, am_up_at]⟩
  have hz : ∀ x, x < 256 → J 42 x = am_b false := fun x hx => by rw [hJ, am_up_a _ _ (by decide), va_up_o _ _ (by decide)]; simp [va_up, am_fl, hx, am_b]; decide
  have hm : ∀ x, x < 128 → J 43 x = nI 0 := fun x hx => by rw [hJ, am_up_a _ _ (by decide)]; simp [va_up, am_fl, hx]
  have hW : WX w h (zM, zM, 0) J := ⟨hD.kept (ob 3 (by decide) (by decide) (by decide) (by decide)) (ob 4 (by decide) (by decide) (by decide) (by decide)), ⟨by rw [ob 3 (by decide) (by decide) (by decide) (by decide)]; exact hD.1, by rw [ob 3 (by decide) (by decide) (by decide) (by decide)]; exact hD.2.1, fun p hp => by rw [hm p hp]; congr 1; unfold gv zM; split <;> rfl⟩, by rw [hJ, am_up_at]⟩
  refine rn_iload_n dX6_readInto_28 rfl rfl ?_
  refine rn_istore (ls' := [some (.ref 41), some (.ref 3), some (.int (nI i0)), some (.int (nI j0)), some (.int (nI i0)), none, none, none, none, none, none]) dX6_readInto_29 (by decide) rfl rfl ?_
  refine rn_iload_n dX6_readInto_31 rfl rfl ?_
  refine rn_istore (ls' := [some (.ref 41), some (.ref 3), some (.int (nI i0)), some (.int (nI j0)), some (.int (nI i0)), some (.int (nI j0)), none, none, none, none, none]) dX6_readInto_32 (by decide) rfl rfl ?_
  refine rn_iconst (v := nI 0) dX6_readInto_34 (by decide) ?_
  refine rn_istore (ls' := [some (.ref 41), some (.ref 3), some (.int (nI i0)), some (.int (nI j0)), some (.int (nI i0)), some (.int (nI j0)), some (.int (nI 0)), none, none, none, none]) dX6_readInto_35 (by decide) rfl rfl ?_
  exact LP 0 (Nat.zero_le _) J hF rfl hW hz (fun h9 => absurd h9 (by decide))
set_option maxHeartbeats 1000000 in
set_option maxRecDepth 100000 in
theorem c_X7_back_y {S : am_S} (hs : sk S) {I : am_I} {w h : Nat} (w1 : 1 ≤ w) (w8 : w ≤ 8) (h1 : 1 ≤ h) (h8 : h ≤ 8) {n : Nat} {B : Nat → Nat} (hT : tX n B I) (hB : okB n B) {i0 j0 : Nat} (hi : i0 ≤ 2 * w) (hj : j0 ≤ 2 * h) (hij : (i0 + j0) % 2 = 1) : am_Mt 4 Y_X7_back (0, 0) [.ref 0, .int (nI w), .int (nI h), .int (nI i0), .int (nI j0)] S I (fun r S' I' => r = some (.int (vBk w h B i0 j0 n)) ∧ S' = S ∧ DX (wD w h B i0 j0 n) I I') := by
  have h200 := hB.1
  have hpt : pPoint w h (nI i0) (nI j0) = true := decide_eq_true (by rw [z_nI (by omega), z_nI (by omega)]; omega)
  rcases hX : wR w h B i0 j0 n with e | σ
  · refine am_mt ⟨by decide +kernel, rfl⟩ (Nat.le_of_ble_eq_true rfl) rfl ?_
    refine rn_iload_n dX7_back_0 rfl rfl ?_
    refine rn_callSq (st := []) dX7_back_1 cf_7_173 (c_X7_isDots _ _ _) (by omega) rfl rfl (Nat.le_of_ble_eq_true rfl) ?_
    refine rn_if_eqB (tgt := 14) dX7_back_4 (by decide) (fun c_4 => ?_) (fun c_4 => ?_)
    · exact absurd (by rw [z_nI (by omega)]; omega) (of_decide_eq_false c_4)
    · refine rn_iload_n dX7_back_7 rfl rfl ?_
      refine rn_callSq (st := []) dX7_back_8 cf_7_173 (c_X7_isDots _ _ _) (by omega) rfl rfl (Nat.le_of_ble_eq_true rfl) ?_
      refine rn_if_neB (tgt := 16) dX7_back_11 (by decide) (fun c_11 => ?_) (fun c_11 => ?_)
      · refine rn_aload_n dX7_back_16 rfl rfl ?_
        refine rn_getR (r := 3) dX7_back_17 fd_7_29 (sk_l hs 0 (by decide)) (sk_k0 hs) rfl (sk_r0_1 hs) ?_
        refine rn_iload_n dX7_back_20 rfl rfl ?_
        refine rn_iload_n dX7_back_21 rfl rfl ?_
        refine rn_callV0 (st := []) dX7_back_22 cf_7_25 (c_clearD (sk_d3 hs) w1 w8 h1 h8) (by omega) (sk_d3 hs).1 (sk_d3 hs).2.1 rfl rfl (Nat.le_of_ble_eq_true rfl) (fun r1 S1 I1 hq => ?_)
        obtain ⟨rfl, rfl, hD1, hF1⟩ := hq
        refine rn_aload_n dX7_back_25 rfl rfl ?_
        refine rn_getR (r := 3) dX7_back_26 fd_7_29 (sk_l hs 0 (by decide)) (sk_k0 hs) rfl (sk_r0_1 hs) ?_
        refine rn_iload_n dX7_back_29 rfl rfl ?_
        refine rn_iload dX7_back_30 rfl ?_
        refine rn_callVq (st := []) dX7_back_32 cf_7_176 (c_X0_isPoint (sk_d3 hs) hD1.1 hD1.2.1 w8 h8 _ _) (by omega) (sk_d3 hs).1 (sk_d3 hs).2.1 rfl rfl (Nat.le_of_ble_eq_true rfl) ?_
        refine rn_if_neB (tgt := 40) dX7_back_35 (by decide) (fun c_35 => ?_) (fun c_35 => ?_)
        · refine rn_aload_n dX7_back_40 rfl rfl ?_
          refine rn_getR (r := 41) dX7_back_41 fd_7_75 (sk_l hs 0 (by decide)) (sk_k0 hs) rfl (sk_r0_8 hs) ?_
          refine rn_aload_n dX7_back_44 rfl rfl ?_
          refine rn_getR (r := 3) dX7_back_45 fd_7_29 (sk_l hs 0 (by decide)) (sk_k0 hs) rfl (sk_r0_1 hs) ?_
          refine rn_iload_n dX7_back_48 rfl rfl ?_
          refine rn_iload dX7_back_49 rfl ?_
          refine rn_callV0 (st := []) dX7_back_51 cf_7_179 (c_X6_readInto hs w1 w8 h1 h8 (hT.kept (hF1 16 (by decide) (by decide)) (hF1 17 (by decide) (by decide))) hB hi hj hij hD1) (by omega) (sk_l hs 41 (by decide)) (sk_k41 hs) rfl rfl (Nat.le_of_ble_eq_true rfl) (fun r1 S1 I2 hq => ?_)
          obtain ⟨rfl, hF2, h160, h161, ⟨e9, he, rfl, hE2, hE3⟩ | ⟨σ, he, _⟩⟩ := hq
          rotate_left
          · rw [hX] at he; exact absurd he (by simp)
          rw [hX] at he
          obtain rfl := Sum.inl.inj he
          refine rn_istore (ls' := [some (.ref 0), some (.int (nI w)), some (.int (nI h)), some (.int (nI i0)), some (.int (nI j0)), some (.int (nI 0))]) dX7_back_54 (by decide) rfl rfl ?_
          refine rn_aload_n dX7_back_56 rfl rfl ?_
          refine rn_getR (r := 16) dX7_back_57 fd_7_57 (sk_l hs 0 (by decide)) (sk_k0 hs) rfl (sk_r0_6 hs) ?_
          refine rn_iconst (v := nI 0) dX7_back_60 (by decide) ?_
          refine rn_putI dX7_back_61 fd_7_159 (sk_l hs 16 (by decide)) (sk_k16 hs) rfl rfl (vp_nar_int _) rfl ?_
          refine rn_iload dX7_back_64 rfl ?_
          refine rn_if_neN (tgt := 71) dX7_back_66 (by decide) (by omega) (fun c_66 => ?_) (fun c_66 => ?_)
          · exact absurd c_66 (by decide)
          · refine rn_iconst (v := (-1)) dX7_back_69 (by decide) ?_
            refine rn_ireturn dX7_back_70 rfl (vp_nar_int _) ?_
            rw [vBk_l hX, wD_l hX]
            exact ⟨rfl, rfl, fun b hb => by rw [am_up_a _ _ (by omega), hF2 b (by omega) (by omega) (by omega) (by omega) (by omega)]; exact hF1 b (by omega) (by omega), fun k hk => by rw [am_up_a _ _ (by decide), hF2 0 (by decide) (by decide) (by decide) (by decide) (by decide), hF1 0 (by decide) (by decide)], by rw [am_up_at], by rw [am_up_k _ _ (by decide)]; exact h161, by rw [am_up_k _ _ (by decide)]; exact hE2, by rw [am_up_k _ _ (by decide)]; exact hE3, Or.inl ⟨e, rfl, fun b hb => by rw [am_up_a _ _ (by omega), hF2 b (by omega) (by omega) (by omega) (by omega) (by omega)]; exact hF1 b (by omega) (by omega)⟩⟩
        · exact absurd hpt (by rw [c_35]; decide)
      · exact absurd (by rw [z_nI (by omega)]; omega) (of_decide_eq_false c_11)
  · refine am_mt ⟨by decide +kernel, rfl⟩ (Nat.le_of_ble_eq_true rfl) rfl ?_
    refine rn_iload_n dX7_back_0 rfl rfl ?_
    refine rn_callSq (st := []) dX7_back_1 cf_7_173 (c_X7_isDots _ _ _) (by omega) rfl rfl (Nat.le_of_ble_eq_true rfl) ?_
    refine rn_if_eqB (tgt := 14) dX7_back_4 (by decide) (fun c_4 => ?_) (fun c_4 => ?_)
    · exact absurd (by rw [z_nI (by omega)]; omega) (of_decide_eq_false c_4)
    · refine rn_iload_n dX7_back_7 rfl rfl ?_
      refine rn_callSq (st := []) dX7_back_8 cf_7_173 (c_X7_isDots _ _ _) (by omega) rfl rfl (Nat.le_of_ble_eq_true rfl) ?_
      refine rn_if_neB (tgt := 16) dX7_back_11 (by decide) (fun c_11 => ?_) (fun c_11 => ?_)
      · refine rn_aload_n dX7_back_16 rfl rfl ?_
        refine rn_getR (r := 3) dX7_back_17 fd_7_29 (sk_l hs 0 (by decide)) (sk_k0 hs) rfl (sk_r0_1 hs) ?_
        refine rn_iload_n dX7_back_20 rfl rfl ?_
        refine rn_iload_n dX7_back_21 rfl rfl ?_
        refine rn_callV0 (st := []) dX7_back_22 cf_7_25 (c_clearD (sk_d3 hs) w1 w8 h1 h8) (by omega) (sk_d3 hs).1 (sk_d3 hs).2.1 rfl rfl (Nat.le_of_ble_eq_true rfl) (fun r1 S1 I1 hq => ?_)
        obtain ⟨rfl, rfl, hD1, hF1⟩ := hq
        refine rn_aload_n dX7_back_25 rfl rfl ?_
        refine rn_getR (r := 3) dX7_back_26 fd_7_29 (sk_l hs 0 (by decide)) (sk_k0 hs) rfl (sk_r0_1 hs) ?_
        refine rn_iload_n dX7_back_29 rfl rfl ?_
        refine rn_iload dX7_back_30 rfl ?_
        refine rn_callVq (st := []) dX7_back_32 cf_7_176 (c_X0_isPoint (sk_d3 hs) hD1.1 hD1.2.1 w8 h8 _ _) (by omega) (sk_d3 hs).1 (sk_d3 hs).2.1 rfl rfl (Nat.le_of_ble_eq_true rfl) ?_
        refine rn_if_neB (tgt := 40) dX7_back_35 (by decide) (fun c_35 => ?_) (fun c_35 => ?_)
        · refine rn_aload_n dX7_back_40 rfl rfl ?_
          refine rn_getR (r := 41) dX7_back_41 fd_7_75 (sk_l hs 0 (by decide)) (sk_k0 hs) rfl (sk_r0_8 hs) ?_
          refine rn_aload_n dX7_back_44 rfl rfl ?_
          refine rn_getR (r := 3) dX7_back_45 fd_7_29 (sk_l hs 0 (by decide)) (sk_k0 hs) rfl (sk_r0_1 hs) ?_
          refine rn_iload_n dX7_back_48 rfl rfl ?_
          refine rn_iload dX7_back_49 rfl ?_
          refine rn_callV0 (st := []) dX7_back_51 cf_7_179 (c_X6_readInto hs w1 w8 h1 h8 (hT.kept (hF1 16 (by decide) (by decide)) (hF1 17 (by decide) (by decide))) hB hi hj hij hD1) (by omega) (sk_l hs 41 (by decide)) (sk_k41 hs) rfl rfl (Nat.le_of_ble_eq_true rfl) (fun r1 S1 I2 hq => ?_)
          obtain ⟨rfl, hF2, h160, h161, ⟨e9, he, _⟩ | ⟨σ9, he, rfl, h162, h163, hD2, h41⟩⟩ := hq
          · rw [hX] at he; exact absurd he (by simp)
          rw [hX] at he
          obtain rfl := Sum.inr.inj he
          refine rn_istore (ls' := [some (.ref 0), some (.int (nI w)), some (.int (nI h)), some (.int (nI i0)), some (.int (nI j0)), some (.int (nI 1))]) dX7_back_54 (by decide) rfl rfl ?_
          refine rn_aload_n dX7_back_56 rfl rfl ?_
          refine rn_getR (r := 16) dX7_back_57 fd_7_57 (sk_l hs 0 (by decide)) (sk_k0 hs) rfl (sk_r0_6 hs) ?_
          refine rn_iconst (v := nI 0) dX7_back_60 (by decide) ?_
          refine rn_putI dX7_back_61 fd_7_159 (sk_l hs 16 (by decide)) (sk_k16 hs) rfl rfl (vp_nar_int _) rfl ?_
          refine rn_iload dX7_back_64 rfl ?_
          refine rn_if_neN (tgt := 71) dX7_back_66 (by decide) (by omega) (fun c_66 => ?_) (fun c_66 => ?_)
          · refine rn_aload_n dX7_back_71 rfl rfl ?_
            refine rn_callV0 (st := []) dX7_back_72 cf_7_170 (c_X7_takeSpare (D := (w, h, σ.1)) hs (isDr.kept hD2 (am_up_a _ _ (by decide)) (am_up_a _ _ (by decide)))) (by omega) (sk_l hs 0 (by decide)) (sk_k0 hs) rfl rfl (Nat.le_of_ble_eq_true rfl) (fun r1 S1 I3 hq => ?_)
            obtain ⟨rfl, rfl, hV⟩ := hq
            refine rn_aload_n dX7_back_75 rfl rfl ?_
            refine rn_getR (r := 41) dX7_back_76 fd_7_75 (sk_l hs 0 (by decide)) (sk_k0 hs) rfl (sk_r0_8 hs) ?_
            refine rn_getI dX7_back_79 fd_7_182 (sk_l hs 41 (by decide)) (sk_k41 hs) rfl ?_
            refine rn_top (y := nI σ.2.2) (by rw [hV.1 41 (by decide) (by decide) (by decide) (by decide), am_up_a _ _ (by decide)]; exact h41) ?_
            refine rn_ireturn dX7_back_82 rfl (vp_nar_int _) ?_
            rw [vBk_r hX, wD_r hX]
            have h16 : I3 16 = am_up I2 16 0 (nI 0) 16 := hV.1 16 (by decide) (by decide) (by decide) (by decide)
            exact ⟨rfl, rfl, fun b hb => by rw [hV.1 b (by omega) (by omega) (by omega) (by omega), am_up_a _ _ (by omega), hF2 b (by omega) (by omega) (by omega) (by omega) (by omega)]; exact hF1 b (by omega) (by omega), fun k hk => by rw [hV.2.1 k (by omega) (by omega), am_up_a _ _ (by decide), hF2 0 (by decide) (by decide) (by decide) (by decide) (by decide), hF1 0 (by decide) (by decide)], by rw [h16, am_up_at], by rw [h16, am_up_k _ _ (by decide)]; exact h161, by rw [h16, am_up_k _ _ (by decide)]; exact h162, by rw [h16, am_up_k _ _ (by decide)]; exact h163, Or.inr ⟨_, rfl, ⟨⟨w1, w8⟩, ⟨h1, h8⟩, wR_ok hX⟩, hV.2.2.1, hV.2.2.2.1, hV.2.2.2.2⟩⟩
          · exact absurd c_66 (by decide)
        · exact absurd hpt (by rw [c_35]; decide)
      · exact absurd (by rw [z_nI (by omega)]; omega) (of_decide_eq_false c_11)
set_option maxHeartbeats 1000000 in
set_option maxRecDepth 100000 in
theorem c_X7_back_n {S : am_S} {I : am_I} {x y : Int32} (a b : Int32) (hn : ¬ ((1 ≤ x.toInt ∧ x.toInt ≤ 8) ∧ 1 ≤ y.toInt ∧ y.toInt ≤ 8)) : am_Mt 4 Y_X7_back (0, 0) [.ref 0, .int x, .int y, .int a, .int b] S I (am_q (some (.int (-1))) S I) := by
  refine am_mt ⟨by decide +kernel, rfl⟩ (Nat.le_of_ble_eq_true rfl) rfl ?_
  refine rn_iload_n dX7_back_0 rfl rfl ?_
  refine rn_callSq (st := []) dX7_back_1 cf_7_173 (c_X7_isDots _ _ _) (by omega) rfl rfl (Nat.le_of_ble_eq_true rfl) ?_
  refine rn_if_eqB (tgt := 14) dX7_back_4 (by decide) (fun c_4 => ?_) (fun c_4 => ?_)
  · refine rn_iconst (v := (-1)) dX7_back_14 (by decide) ?_
    refine rn_ireturn dX7_back_15 rfl (vp_nar_int _) ?_
    exact ⟨rfl, rfl, rfl⟩
  · refine rn_iload_n dX7_back_7 rfl rfl ?_
    refine rn_callSq (st := []) dX7_back_8 cf_7_173 (c_X7_isDots _ _ _) (by omega) rfl rfl (Nat.le_of_ble_eq_true rfl) ?_
    refine rn_if_neB (tgt := 16) dX7_back_11 (by decide) (fun c_11 => ?_) (fun c_11 => ?_)
    · exact absurd (And.intro (of_decide_eq_true c_4) (of_decide_eq_true c_11)) hn
    · refine rn_iconst (v := (-1)) dX7_back_14 (by decide) ?_
      refine rn_ireturn dX7_back_15 rfl (vp_nar_int _) ?_
      exact ⟨rfl, rfl, rfl⟩
set_option maxHeartbeats 1000000 in
set_option maxRecDepth 100000 in
theorem c_X7_back_p {S : am_S} (hs : sk S) {I : am_I} {w h : Nat} (w1 : 1 ≤ w) (w8 : w ≤ 8) (h1 : 1 ≤ h) (h8 : h ≤ 8) {a b : Int32} (hn : pPoint w h a b = false) : am_Mt 4 Y_X7_back (0, 0) [.ref 0, .int (nI w), .int (nI h), .int a, .int b] S I (fun r S' I' => r = some (.int (-1)) ∧ S' = S ∧ ∀ b, b ≠ 3 → b ≠ 4 → I' b = I b) := by
  refine am_mt ⟨by decide +kernel, rfl⟩ (Nat.le_of_ble_eq_true rfl) rfl ?_
  refine rn_iload_n dX7_back_0 rfl rfl ?_
  refine rn_callSq (st := []) dX7_back_1 cf_7_173 (c_X7_isDots _ _ _) (by omega) rfl rfl (Nat.le_of_ble_eq_true rfl) ?_
  refine rn_if_eqB (tgt := 14) dX7_back_4 (by decide) (fun c_4 => ?_) (fun c_4 => ?_)
  · exact absurd (by rw [z_nI (by omega)]; omega) (of_decide_eq_false c_4)
  · refine rn_iload_n dX7_back_7 rfl rfl ?_
    refine rn_callSq (st := []) dX7_back_8 cf_7_173 (c_X7_isDots _ _ _) (by omega) rfl rfl (Nat.le_of_ble_eq_true rfl) ?_
    refine rn_if_neB (tgt := 16) dX7_back_11 (by decide) (fun c_11 => ?_) (fun c_11 => ?_)
    · refine rn_aload_n dX7_back_16 rfl rfl ?_
      refine rn_getR (r := 3) dX7_back_17 fd_7_29 (sk_l hs 0 (by decide)) (sk_k0 hs) rfl (sk_r0_1 hs) ?_
      refine rn_iload_n dX7_back_20 rfl rfl ?_
      refine rn_iload_n dX7_back_21 rfl rfl ?_
      refine rn_callV0 (st := []) dX7_back_22 cf_7_25 (c_clearD (sk_d3 hs) w1 w8 h1 h8) (by omega) (sk_d3 hs).1 (sk_d3 hs).2.1 rfl rfl (Nat.le_of_ble_eq_true rfl) (fun r1 S1 I1 hq => ?_)
      obtain ⟨rfl, rfl, hD1, hF1⟩ := hq
      refine rn_aload_n dX7_back_25 rfl rfl ?_
      refine rn_getR (r := 3) dX7_back_26 fd_7_29 (sk_l hs 0 (by decide)) (sk_k0 hs) rfl (sk_r0_1 hs) ?_
      refine rn_iload_n dX7_back_29 rfl rfl ?_
      refine rn_iload dX7_back_30 rfl ?_
      refine rn_callVq (st := []) dX7_back_32 cf_7_176 (c_X0_isPoint (sk_d3 hs) hD1.1 hD1.2.1 w8 h8 _ _) (by omega) (sk_d3 hs).1 (sk_d3 hs).2.1 rfl rfl (Nat.le_of_ble_eq_true rfl) ?_
      refine rn_if_neB (tgt := 40) dX7_back_35 (by decide) (fun c_35 => ?_) (fun c_35 => ?_)
      · exact absurd c_35 (by rw [hn]; decide)
      · refine rn_iconst (v := (-1)) dX7_back_38 (by decide) ?_
        refine rn_ireturn dX7_back_39 rfl (vp_nar_int _) ?_
        exact ⟨rfl, rfl, hF1⟩
    · exact absurd (by rw [z_nI (by omega)]; omega) (of_decide_eq_false c_11)
