theorem lw_a {b : Bool} {i m : Nat} (h : inS b i m = true) (h1 : i ≤ mv b i) : i = lw b i := by
  have h2 := inS_i h
  unfold mv at h1
  unfold lw
  cases b
  · have := h2.2 rfl; simp at h1; omega
  · simp
theorem lw_b {b : Bool} {i m : Nat} (h : inS b i m = true) (h1 : mv b i < i) : mv b i = lw b i := by
  unfold mv at h1 ⊢
  unfold lw
  cases b
  · simp
  · simp at h1; omega
section WK
variable {w h : Nat} {B : Nat → Nat} {i0 j0 k : Nat}
theorem wK_1 (h1 : ¬ (97 ≤ B k ∧ B k ≤ 100)) : wK w h B i0 j0 k = 1 := if_neg h1
theorem wK_2 (h1 : 97 ≤ B k ∧ B k ≤ 100) (h2 : ¬ (inS (rt (B k)) (wP B i0 j0 k).1 (2 * w) = true ∧ inS (dn (B k)) (wP B i0 j0 k).2 (2 * h) = true)) : wK w h B i0 j0 k = 2 := (if_pos h1).trans (if_neg h2)
theorem wK_3 (h1 : 97 ≤ B k ∧ B k ≤ 100) (h2 : inS (rt (B k)) (wP B i0 j0 k).1 (2 * w) = true) (h3 : inS (dn (B k)) (wP B i0 j0 k).2 (2 * h) = true) (h4 : wG w B i0 j0 k (wQ w B i0 j0 k) = true) : wK w h B i0 j0 k = 3 := (if_pos h1).trans ((if_pos ⟨h2, h3⟩).trans (if_pos h4))
theorem wK_z (h1 : 97 ≤ B k ∧ B k ≤ 100) (h2 : inS (rt (B k)) (wP B i0 j0 k).1 (2 * w) = true) (h3 : inS (dn (B k)) (wP B i0 j0 k).2 (2 * h) = true) (h4 : wG w B i0 j0 k (wQ w B i0 j0 k) = false) : wK w h B i0 j0 k = 0 := (if_pos h1).trans ((if_pos ⟨h2, h3⟩).trans (if_neg (by rw [h4]; decide)))
theorem wG_up {f : Nat → Int32} {v : Int32} (hv : v = 1) {x q : Nat} (h0 : x ≠ q → f x = am_b (wG w B i0 j0 k x)) (h1 : x = q → f x = v) (hq : wQ w B i0 j0 k = q) : f x = am_b (wG w B i0 j0 (k + 1) x) := by
  by_cases h2 : x = q
  · rw [h1 h2, hv, am_b_t (by show (wG w B i0 j0 k x || decide (wQ w B i0 j0 k = x)) = true; rw [decide_eq_true (hq.trans h2.symm), Bool.or_true])]
  · rw [h0 h2]
    show _ = am_b (wG w B i0 j0 k x || decide (wQ w B i0 j0 k = x))
    rw [decide_eq_false (fun q9 => h2 (q9.symm.trans hq)), Bool.or_false]
end WK
/-- the drawing that a walk back tells, in the reference's hand -/
def WM (w h : Nat) (σ : wSt) (I : am_I) : Prop := isGr I 18 w h σ.1 ∧ (∀ i j, i < 17 → j < 17 → I 61 (17 * j + i) = nI (σ.2.1 i j)) ∧ I 44 29 = nI σ.2.2
def bdF (I I' : am_I) : Prop := (∀ b, b ≠ 44 → b ≠ 47 → b ≠ 61 → I' b = I b) ∧ (∀ k, k ≠ 29 → I' 44 k = I 44 k) ∧ ∀ g, g < 18 → gS I I' g
theorem bdF.rf {I : am_I} : bdF I I := ⟨fun _ _ _ _ => rfl, fun _ _ => rfl, fun _ _ => gS.rf⟩
def FK (I I' : am_I) : Prop := (∀ b, b ≠ 44 → b ≠ 47 → b ≠ 60 → b ≠ 61 → I' b = I b) ∧ (∀ k, k ≠ 18 → k ≠ 29 → I' 44 k = I 44 k) ∧ ∀ g, g < 18 → gS I I' g
theorem FK.rf {I : am_I} : FK I I := ⟨fun _ _ _ _ _ => rfl, fun _ _ _ => rfl, fun _ _ => gS.rf⟩
theorem FK.trans {I I1 I2 : am_I} (h : FK I I1) (g : FK I1 I2) : FK I I2 := ⟨fun b h1 h2 h3 h4 => (g.1 b h1 h2 h3 h4).trans (h.1 b h1 h2 h3 h4), fun k h1 h2 => (g.2.1 k h1 h2).trans (h.2.1 k h1 h2), fun x hx => (h.2.2 x hx).trans (g.2.2 x hx)⟩
theorem bdF.fk {I I' : am_I} (h : bdF I I') : FK I I' := ⟨fun b h1 h2 _ h4 => h.1 b h1 h2 h4, fun k _ h2 => h.2.1 k h2, h.2.2⟩
theorem FK.p {I I' : am_I} (h : FK I I') (v : Int32) : FK I (am_up I' 44 18 v) := h.trans ⟨fun b h1 _ _ _ => am_up_a _ _ h1, fun k h1 _ => am_up_k _ _ h1, fun g _ => gS.of g (am_up_a _ _ (by decide)) (am_up_a _ _ (by decide)) (am_up_a _ _ (by decide))⟩
theorem FK.g {I I' : am_I} (h : FK I I') (k : Nat) (v : Int32) : FK I (am_up I' 60 k v) := h.trans ⟨fun b _ _ h3 _ => am_up_a _ _ h3, fun k _ _ => by rw [am_up_a _ _ (by decide)], fun g _ => gS.of g (am_up_a _ _ (by decide)) (am_up_a _ _ (by decide)) (am_up_a _ _ (by decide))⟩
theorem WM.kept {w h : Nat} {σ : wSt} {I I' : am_I} (hW : WM w h σ I) (h1 : I' 45 = I 45) (h2 : I' 46 = I 46) (h3 : I' 47 = I 47) (h4 : I' 61 = I 61) (h5 : I' 44 29 = I 44 29) : WM w h σ I' := ⟨⟨by rw [h1]; exact hW.1.1, by rw [h2]; exact hW.1.2.1, fun i j hi hj => by rw [h3]; exact hW.1.2.2 i j hi hj⟩, fun i j hi hj => by rw [h4]; exact hW.2.1 i j hi hj, h5.trans hW.2.2⟩
set_option maxHeartbeats 1000000 in
set_option maxRecDepth 100000 in
theorem c_X8_bend {S : am_S} (hs : sk S) {I : am_I} {w h : Nat} (w1 : 1 ≤ w) (w8 : w ≤ 8) (h1 : 1 ≤ h) (h8 : h ≤ 8) {σ : wSt} (hW : WM w h σ I) (hT : ∀ i j, σ.2.1 i j ≤ 1) {i j c0 c : Nat} (hi : i ≤ 16) (hj : j ≤ 16) (hc0 : c0 < 256) (hc : c < 256) : am_Mt 2 Y_X8_bend (0, 0) [.ref 44, .int (nI i), .int (nI j), .int (nI c0), .int (nI c)] S I (fun r S' I' => r = none ∧ S' = S ∧ bdF I I' ∧ WM w h (tell w h σ (i, j) (tv c0 c)) I') := by
  refine am_mt ⟨by decide +kernel, rfl⟩ (Nat.le_of_ble_eq_true rfl) rfl ?_
  refine rn_bipush (v := nI 17) dX8_bend_0 (by decide) ?_
  refine rn_iload_n dX8_bend_2 rfl rfl ?_
  refine rn_imul dX8_bend_3 ?_
  refine rn_top (pk_mul _ _) ?_
  refine rn_iload_n dX8_bend_4 rfl rfl ?_
  refine rn_iadd dX8_bend_5 ?_
  refine rn_top (nI_add _ _) ?_
  refine rn_top (y := nI (17 * j + i)) (rfl) ?_
  refine rn_istore (ls' := [some (.ref 44), some (.int (nI i)), some (.int (nI j)), some (.int (nI c0)), some (.int (nI c)), some (.int (nI (17 * j + i)))]) dX8_bend_6 (by decide) rfl rfl ?_
  refine rn_aload_n dX8_bend_8 rfl rfl ?_
  refine rn_bipush (v := nI 18) dX8_bend_9 (by decide) ?_
  refine rn_iload_n dX8_bend_11 rfl rfl ?_
  refine rn_iload_n dX8_bend_12 rfl rfl ?_
  refine rn_callVq (st := []) dX8_bend_13 cf_8_74 (c_X8_isInner hs (g := 18) (by decide) hW.1.1 hW.1.2.1 w1 w8 h1 h8 _ _) (by omega) (sk_l hs 44 (by decide)) (sk_k44 hs) rfl rfl (Nat.le_of_ble_eq_true rfl) ?_
  refine rn_if_eqB (tgt := 29) dX8_bend_16 (by decide) (fun c_16 => ?_) (fun c_16 => ?_)
  · refine rn_return dX8_bend_29 rfl ?_
    have ht : tell w h σ (i, j) (tv c0 c) = σ := if_neg (fun q => by first | exact absurd c_16 (by rw [pInner_nI (by omega) (by omega), q.1]; decide) | (have q2 : σ.2.1 i j = 0 := q.2; omega))
    rw [ht]
    exact ⟨rfl, rfl, bdF.rf, hW⟩
  · have hin : nInner w h i j = true := by rw [← pInner_nI (by omega) (by omega)]; exact c_16
    have hij := nIn.mp hin
    have hs1 := hT i j
    refine rn_aload_n dX8_bend_19 rfl rfl ?_
    refine rn_getR (r := 61) dX8_bend_20 fd_8_67 (sk_l hs 44 (by decide)) (sk_k44 hs) rfl (sk_r44_28 hs) ?_
    refine rn_iload dX8_bend_23 rfl ?_
    refine rn_baloadN dX8_bend_25 (sk_l hs 61 (by decide)) (sk_k61 hs) (by decide) (by omega) (by omega) ?_
    refine rn_top (y := nI (σ.2.1 i j)) (hW.2.1 i j (by omega) (by omega)) ?_
    refine rn_if_eqN (tgt := 30) dX8_bend_26 (by decide) (by omega) (fun c_26 => ?_) (fun c_26 => ?_)
    · refine rn_aload_n dX8_bend_30 rfl rfl ?_
      refine rn_getR (r := 61) dX8_bend_31 fd_8_67 (sk_l hs 44 (by decide)) (sk_k44 hs) rfl (sk_r44_28 hs) ?_
      refine rn_iload dX8_bend_34 rfl ?_
      refine rn_iconst (v := nI 1) dX8_bend_36 (by decide) ?_
      refine rn_zastoreN dX8_bend_37 (sk_l hs 61 (by decide)) (sk_k61 hs) (by omega) (by omega) (by decide) ?_
      refine rn_aload_n dX8_bend_38 rfl rfl ?_
      refine rn_getR (r := 47) dX8_bend_39 fd_8_16 (sk_l hs 44 (by decide)) (sk_k44 hs) rfl (sk_r44_2 hs) ?_
      refine rn_sipush (v := nI 5202) dX8_bend_42 (by decide) ?_
      refine rn_iload dX8_bend_45 rfl ?_
      refine rn_iadd dX8_bend_47 ?_
      refine rn_top (nI_add _ _) ?_
      refine rn_iload_n dX8_bend_48 rfl rfl ?_
      refine rn_callSq (st := [.int (nI (5202 + (17 * j + i))), .ref 47]) dX8_bend_49 cf_8_218 (m_dxOf _ _ (by omega)) (by omega) rfl rfl (Nat.le_of_ble_eq_true rfl) ?_
      refine rn_iload dX8_bend_52 rfl ?_
      refine rn_callSq (st := [.int (sg (rt c0)), .int (nI (5202 + (17 * j + i))), .ref 47]) dX8_bend_54 cf_8_218 (m_dxOf _ _ (by omega)) (by omega) rfl rfl (Nat.le_of_ble_eq_true rfl) ?_
      refine rn_icmp_eq (tgt := 64) dX8_bend_57 (by decide) (fun c_57 => ?_) (fun c_57 => ?_)
      · refine rn_iload_n dX8_bend_64 rfl rfl ?_
        refine rn_callSq (st := [.int (nI (5202 + (17 * j + i))), .ref 47]) dX8_bend_65 cf_8_221 (m_dyOf _ _ (by omega)) (by omega) rfl rfl (Nat.le_of_ble_eq_true rfl) ?_
        refine rn_iload dX8_bend_68 rfl ?_
        refine rn_callSq (st := [.int (sg (dn c0)), .int (nI (5202 + (17 * j + i))), .ref 47]) dX8_bend_70 cf_8_221 (m_dyOf _ _ (by omega)) (by omega) rfl rfl (Nat.le_of_ble_eq_true rfl) ?_
        refine rn_icmp_eq (tgt := 80) dX8_bend_73 (by decide) (fun c_73 => ?_) (fun c_73 => ?_)
        · refine rn_iconst (v := nI 0) dX8_bend_80 (by decide) ?_
          refine rn_i2b dX8_bend_81 ?_
          refine rn_top (y := nI 0) (by decide) ?_
          refine rn_bastoreN dX8_bend_82 (sk_l hs 47 (by decide)) (sk_k47 hs) (by omega) (by omega) ?_
          refine rn_I (I' := am_up (am_up I 61 (17 * j + i) (nI 1)) 47 (289 * 18 + 17 * j + i) (nI 0)) (by rw [show 5202 + (17 * j + i) = 289 * 18 + 17 * j + i by omega, show (nI 0).toInt8.toInt32 = nI 0 by decide]) ?_
          refine rn_aload_n dX8_bend_83 rfl rfl ?_
          refine rn_dup dX8_bend_84 rfl ?_
          refine rn_getI dX8_bend_85 fd_8_224 (sk_l hs 44 (by decide)) (sk_k44 hs) rfl ?_
          refine rn_top (y := nI σ.2.2) (by rw [am_up_a _ _ (by decide), am_up_a _ _ (by decide)]; exact hW.2.2) ?_
          refine rn_iconst (v := nI 1) dX8_bend_88 (by decide) ?_
          refine rn_iadd dX8_bend_89 ?_
          refine rn_top (nI_add _ _) ?_
          refine rn_putI dX8_bend_90 fd_8_224 (sk_l hs 44 (by decide)) (sk_k44 hs) rfl rfl (vp_nar_int _) rfl ?_
          refine rn_return dX8_bend_93 rfl ?_
          have hv : tv c0 c = 0 := (if_pos (sg_inj.mp c_57)).trans (if_pos (sg_inj.mp c_73))
          have ht : tell w h σ (i, j) (tv c0 c) = (upM σ.1 (i, j) (tv c0 c), upM σ.2.1 (i, j) 1, σ.2.2 + 1) := if_pos ⟨hin, c_26⟩
          rw [ht, hv]
          refine ⟨rfl, rfl, ⟨fun b h9 h8 h7 => by rw [am_up_a _ _ h9, am_up_a _ _ h8, am_up_a _ _ h7], fun k hk => by rw [am_up_k _ _ hk, am_up_a _ _ (by decide), am_up_a _ _ (by decide)], fun g hg => ?_⟩, ?_, ?_, by rw [am_up_at]⟩
          · have q := (gfr_up (I := am_up I 61 (17 * j + i) (nI 1)) (g := 18) (k := 17 * j + i) (by omega) (nI 0)).2 g (by omega)
            rw [← Nat.add_assoc] at q
            exact ((gS.of g (am_up_a _ _ (by decide)) (am_up_a _ _ (by decide)) (am_up_a _ _ (by decide)) : gS I (am_up I 61 (17 * j + i) (nI 1)) g).trans q).trans (gS.of g (am_up_a _ _ (by decide)) (am_up_a _ _ (by decide)) (am_up_a _ _ (by decide)))
          · exact (grD.up (D := (w, h, upM σ.1 (i, j) 0)) (isGr_up w8 h8 (grD.up (D := (w, h, σ.1)) hW.1 (b := 61) (k := 17 * j + i) (Or.inr (by decide)) (nI 1)) hin 0) (b := 44) (k := 29) (Or.inl (by decide)) _ : grD _ 18 (w, h, upM σ.1 (i, j) 0))
          · intro a b ha hb
            rw [am_up_a _ _ (by decide), am_up_a _ _ (by decide)]
            show _ = nI (upM σ.2.1 (i, j) 1 a b)
            unfold upM
            by_cases hq : a = i ∧ b = j
            · rw [if_pos hq, hq.1, hq.2, am_up_at]
            · rw [if_neg hq, am_up_k _ _ (fun q9 => hq ⟨(cellg_inj ha (by omega) q9).2, (cellg_inj ha (by omega) q9).1⟩)]; exact hW.2.1 a b ha hb
        · refine rn_iconst (v := nI 2) dX8_bend_76 (by decide) ?_
          refine rn_goto (tgt := 81) dX8_bend_77 (by decide) ?_
          refine rn_i2b dX8_bend_81 ?_
          refine rn_top (y := nI 2) (by decide) ?_
          refine rn_bastoreN dX8_bend_82 (sk_l hs 47 (by decide)) (sk_k47 hs) (by omega) (by omega) ?_
          refine rn_I (I' := am_up (am_up I 61 (17 * j + i) (nI 1)) 47 (289 * 18 + 17 * j + i) (nI 2)) (by rw [show 5202 + (17 * j + i) = 289 * 18 + 17 * j + i by omega, show (nI 2).toInt8.toInt32 = nI 2 by decide]) ?_
          refine rn_aload_n dX8_bend_83 rfl rfl ?_
          refine rn_dup dX8_bend_84 rfl ?_
          refine rn_getI dX8_bend_85 fd_8_224 (sk_l hs 44 (by decide)) (sk_k44 hs) rfl ?_
          refine rn_top (y := nI σ.2.2) (by rw [am_up_a _ _ (by decide), am_up_a _ _ (by decide)]; exact hW.2.2) ?_
          refine rn_iconst (v := nI 1) dX8_bend_88 (by decide) ?_
          refine rn_iadd dX8_bend_89 ?_
          refine rn_top (nI_add _ _) ?_
          refine rn_putI dX8_bend_90 fd_8_224 (sk_l hs 44 (by decide)) (sk_k44 hs) rfl rfl (vp_nar_int _) rfl ?_
          refine rn_return dX8_bend_93 rfl ?_
          have hv : tv c0 c = 2 := (if_pos (sg_inj.mp c_57)).trans (if_neg (fun q => c_73 (sg_inj.mpr q)))
          have ht : tell w h σ (i, j) (tv c0 c) = (upM σ.1 (i, j) (tv c0 c), upM σ.2.1 (i, j) 1, σ.2.2 + 1) := if_pos ⟨hin, c_26⟩
          rw [ht, hv]
          refine ⟨rfl, rfl, ⟨fun b h9 h8 h7 => by rw [am_up_a _ _ h9, am_up_a _ _ h8, am_up_a _ _ h7], fun k hk => by rw [am_up_k _ _ hk, am_up_a _ _ (by decide), am_up_a _ _ (by decide)], fun g hg => ?_⟩, ?_, ?_, by rw [am_up_at]⟩
          · have q := (gfr_up (I := am_up I 61 (17 * j + i) (nI 1)) (g := 18) (k := 17 * j + i) (by omega) (nI 2)).2 g (by omega)
            rw [← Nat.add_assoc] at q
            exact ((gS.of g (am_up_a _ _ (by decide)) (am_up_a _ _ (by decide)) (am_up_a _ _ (by decide)) : gS I (am_up I 61 (17 * j + i) (nI 1)) g).trans q).trans (gS.of g (am_up_a _ _ (by decide)) (am_up_a _ _ (by decide)) (am_up_a _ _ (by decide)))
          · exact (grD.up (D := (w, h, upM σ.1 (i, j) 2)) (isGr_up w8 h8 (grD.up (D := (w, h, σ.1)) hW.1 (b := 61) (k := 17 * j + i) (Or.inr (by decide)) (nI 1)) hin 2) (b := 44) (k := 29) (Or.inl (by decide)) _ : grD _ 18 (w, h, upM σ.1 (i, j) 2))
          · intro a b ha hb
            rw [am_up_a _ _ (by decide), am_up_a _ _ (by decide)]
            show _ = nI (upM σ.2.1 (i, j) 1 a b)
            unfold upM
            by_cases hq : a = i ∧ b = j
            · rw [if_pos hq, hq.1, hq.2, am_up_at]
            · rw [if_neg hq, am_up_k _ _ (fun q9 => hq ⟨(cellg_inj ha (by omega) q9).2, (cellg_inj ha (by omega) q9).1⟩)]; exact hW.2.1 a b ha hb
      · refine rn_iconst (v := nI 1) dX8_bend_60 (by decide) ?_
        refine rn_goto (tgt := 81) dX8_bend_61 (by decide) ?_
        refine rn_i2b dX8_bend_81 ?_
        refine rn_top (y := nI 1) (by decide) ?_
        refine rn_bastoreN dX8_bend_82 (sk_l hs 47 (by decide)) (sk_k47 hs) (by omega) (by omega) ?_
        refine rn_I (I' := am_up (am_up I 61 (17 * j + i) (nI 1)) 47 (289 * 18 + 17 * j + i) (nI 1)) (by rw [show 5202 + (17 * j + i) = 289 * 18 + 17 * j + i by omega, show (nI 1).toInt8.toInt32 = nI 1 by decide]) ?_
        refine rn_aload_n dX8_bend_83 rfl rfl ?_
        refine rn_dup dX8_bend_84 rfl ?_
        refine rn_getI dX8_bend_85 fd_8_224 (sk_l hs 44 (by decide)) (sk_k44 hs) rfl ?_
        refine rn_top (y := nI σ.2.2) (by rw [am_up_a _ _ (by decide), am_up_a _ _ (by decide)]; exact hW.2.2) ?_
        refine rn_iconst (v := nI 1) dX8_bend_88 (by decide) ?_
        refine rn_iadd dX8_bend_89 ?_
        refine rn_top (nI_add _ _) ?_
        refine rn_putI dX8_bend_90 fd_8_224 (sk_l hs 44 (by decide)) (sk_k44 hs) rfl rfl (vp_nar_int _) rfl ?_
        refine rn_return dX8_bend_93 rfl ?_
        have hv : tv c0 c = 1 := if_neg (fun q => c_57 (sg_inj.mpr q))
        have ht : tell w h σ (i, j) (tv c0 c) = (upM σ.1 (i, j) (tv c0 c), upM σ.2.1 (i, j) 1, σ.2.2 + 1) := if_pos ⟨hin, c_26⟩
        rw [ht, hv]
        refine ⟨rfl, rfl, ⟨fun b h9 h8 h7 => by rw [am_up_a _ _ h9, am_up_a _ _ h8, am_up_a _ _ h7], fun k hk => by rw [am_up_k _ _ hk, am_up_a _ _ (by decide), am_up_a _ _ (by decide)], fun g hg => ?_⟩, ?_, ?_, by rw [am_up_at]⟩
        · have q := (gfr_up (I := am_up I 61 (17 * j + i) (nI 1)) (g := 18) (k := 17 * j + i) (by omega) (nI 1)).2 g (by omega)
          rw [← Nat.add_assoc] at q
          exact ((gS.of g (am_up_a _ _ (by decide)) (am_up_a _ _ (by decide)) (am_up_a _ _ (by decide)) : gS I (am_up I 61 (17 * j + i) (nI 1)) g).trans q).trans (gS.of g (am_up_a _ _ (by decide)) (am_up_a _ _ (by decide)) (am_up_a _ _ (by decide)))
        · exact (grD.up (D := (w, h, upM σ.1 (i, j) 1)) (isGr_up w8 h8 (grD.up (D := (w, h, σ.1)) hW.1 (b := 61) (k := 17 * j + i) (Or.inr (by decide)) (nI 1)) hin 1) (b := 44) (k := 29) (Or.inl (by decide)) _ : grD _ 18 (w, h, upM σ.1 (i, j) 1))
        · intro a b ha hb
          rw [am_up_a _ _ (by decide), am_up_a _ _ (by decide)]
          show _ = nI (upM σ.2.1 (i, j) 1 a b)
          unfold upM
          by_cases hq : a = i ∧ b = j
          · rw [if_pos hq, hq.1, hq.2, am_up_at]
          · rw [if_neg hq, am_up_k _ _ (fun q9 => hq ⟨(cellg_inj ha (by omega) q9).2, (cellg_inj ha (by omega) q9).1⟩)]; exact hW.2.1 a b ha hb
    · refine rn_return dX8_bend_29 rfl ?_
      have ht : tell w h σ (i, j) (tv c0 c) = σ := if_neg (fun q => by first | exact absurd c_16 (by rw [pInner_nI (by omega) (by omega), q.1]; decide) | (have q2 : σ.2.1 i j = 0 := q.2; omega))
      rw [ht]
      exact ⟨rfl, rfl, bdF.rf, hW⟩
set_option maxHeartbeats 1000000 in
set_option maxRecDepth 100000 in
theorem c_X8_walkBack {S : am_S} (hs : sk S) {I : am_I} {w h : Nat} (w1 : 1 ≤ w) (w8 : w ≤ 8) (h1 : 1 ≤ h) (h8 : h ≤ 8) {n : Nat} {B : Nat → Nat} (hT : tM2 n B I) (hB : okB n B) {i0 j0 : Nat} (hi : i0 ≤ 2 * w) (hj : j0 ≤ 2 * h) (hij : (i0 + j0) % 2 = 1) (hW : WM w h (zM, zM, 0) I) (hG : ∀ x, x < 256 → I 60 x = am_b false) : am_Mt 3 Y_X8_walkBack (0, 0) [.ref 44, .int (nI i0), .int (nI j0)] S I (fun r S' I' => S' = S ∧ FK I I' ∧ ((∃ e, wR w h B i0 j0 n = .inl e ∧ r = some (.int (nI e.1)) ∧ I' 44 18 = nI e.2) ∨ ∃ σ, wR w h B i0 j0 n = .inr σ ∧ r = some (.int (nI 0)) ∧ WM w h σ I')) := by
  have h200 := hB.1
  have EX : ∀ J : am_I, FK I J → wE w h B i0 j0 n = none → WM w h (wT w h B i0 j0 n) J → am_Rn 3 Y_X8_walkBack (0, 0) 198 [some (.ref 44), some (.int (nI i0)), some (.int (nI j0)), some (.int (nI ((wP B i0 j0 n).1))), some (.int (nI ((wP B i0 j0 n).2))), some (.int (nI n)), none, none, none, none] [] S J (fun r S' I' => S' = S ∧ FK I I' ∧ ((∃ e, wR w h B i0 j0 n = .inl e ∧ r = some (.int (nI e.1)) ∧ I' 44 18 = nI e.2) ∨ ∃ σ, wR w h B i0 j0 n = .inr σ ∧ r = some (.int (nI 0)) ∧ WM w h σ I')) := by
    intro J hF hE hW
    have hpp0 := wP_in hi hj hij hE
    refine rn_aload_n dX8_walkBack_198 rfl rfl ?_
    refine rn_aload_n dX8_walkBack_199 rfl rfl ?_
    refine rn_getI dX8_walkBack_200 fd_8_121 (sk_l hs 44 (by decide)) (sk_k44 hs) rfl ?_
    refine rn_top (y := nI n) ((hF.2.1 14 (by decide) (by decide)).trans hT.1) ?_
    refine rn_putI dX8_walkBack_203 fd_8_154 (sk_l hs 44 (by decide)) (sk_k44 hs) rfl rfl (vp_nar_int _) rfl ?_
    obtain ⟨J1, hJ1⟩ : ∃ J9 : am_I, J9 = am_up J 44 18 (nI n) := ⟨_, rfl⟩
    refine rn_I hJ1.symm ?_
    have hF1 : FK I J1 := by rw [hJ1]; exact hF.p _
    have h18 : J1 44 18 = nI n := by rw [hJ1, am_up_at]
    have hW1 : WM w h (wT w h B i0 j0 n) J1 := hW.kept (by rw [hJ1, am_up_a _ _ (by decide)]) (by rw [hJ1, am_up_a _ _ (by decide)]) (by rw [hJ1, am_up_a _ _ (by decide)]) (by rw [hJ1, am_up_a _ _ (by decide)]) (by rw [hJ1, am_up_k _ _ (by decide)])
    have hpp := wP_in hi hj hij hE
    refine rn_aload_n dX8_walkBack_206 rfl rfl ?_
    refine rn_getI dX8_walkBack_207 fd_8_121 (sk_l hs 44 (by decide)) (sk_k44 hs) rfl ?_
    refine rn_top (y := nI n) ((hF1.2.1 14 (by decide) (by decide)).trans hT.1) ?_
    refine rn_if_eqN (tgt := 224) dX8_walkBack_210 (by decide) (by omega) (fun c_210 => ?_) (fun c_210 => ?_)
    · refine rn_iconst (v := nI 4) dX8_walkBack_224 (by decide) ?_
      refine rn_ireturn dX8_walkBack_225 rfl (vp_nar_int _) ?_
      exact ⟨rfl, hF1, Or.inl ⟨(4, n), wR_4 hE (by first | exact Or.inl c_210 | exact Or.inr (fun q => c_215 (congrArg Prod.fst q)) | exact Or.inr (fun q => c_221 (congrArg Prod.snd q))), rfl, h18⟩⟩
    · refine rn_iload_n dX8_walkBack_213 rfl rfl ?_
      refine rn_iload_n dX8_walkBack_214 rfl rfl ?_
      refine rn_icmp_neN (tgt := 224) dX8_walkBack_215 (by decide) (by omega) (by omega) (fun c_215 => ?_) (fun c_215 => ?_)
      · refine rn_iconst (v := nI 4) dX8_walkBack_224 (by decide) ?_
        refine rn_ireturn dX8_walkBack_225 rfl (vp_nar_int _) ?_
        exact ⟨rfl, hF1, Or.inl ⟨(4, n), wR_4 hE (by first | exact Or.inl c_210 | exact Or.inr (fun q => c_215 (congrArg Prod.fst q)) | exact Or.inr (fun q => c_221 (congrArg Prod.snd q))), rfl, h18⟩⟩
      · refine rn_iload dX8_walkBack_218 rfl ?_
        refine rn_iload_n dX8_walkBack_220 rfl rfl ?_
        refine rn_icmp_eqN (tgt := 226) dX8_walkBack_221 (by decide) (by omega) (by omega) (fun c_221 => ?_) (fun c_221 => ?_)
        · refine rn_aload_n dX8_walkBack_226 rfl rfl ?_
          refine rn_iload_n dX8_walkBack_227 rfl rfl ?_
          refine rn_iload dX8_walkBack_228 rfl ?_
          refine rn_aload_n dX8_walkBack_230 rfl rfl ?_
          refine rn_getR (r := 55) dX8_walkBack_231 fd_8_42 (sk_l hs 44 (by decide)) (sk_k44 hs) rfl (sk_r44_13 hs) ?_
          refine rn_aload_n dX8_walkBack_234 rfl rfl ?_
          refine rn_getI dX8_walkBack_235 fd_8_121 (sk_l hs 44 (by decide)) (sk_k44 hs) rfl ?_
          refine rn_top (y := nI n) ((hF1.2.1 14 (by decide) (by decide)).trans hT.1) ?_
          refine rn_iconst (v := nI 1) dX8_walkBack_238 (by decide) ?_
          refine rn_isub dX8_walkBack_239 ?_
          refine rn_top (pk_sub (by omega)) ?_
          refine rn_ialoadN dX8_walkBack_240 (sk_l hs 55 (by decide)) (sk_k55 hs) (by omega) (by omega) ?_
          refine rn_top (y := nI (B (n - 1))) (by rw [hF1.1 55 (by decide) (by decide) (by decide) (by decide)]; exact hT.2 _ (by omega)) ?_
          refine rn_aload_n dX8_walkBack_241 rfl rfl ?_
          refine rn_getR (r := 55) dX8_walkBack_242 fd_8_42 (sk_l hs 44 (by decide)) (sk_k44 hs) rfl (sk_r44_13 hs) ?_
          refine rn_iconst (v := nI 0) dX8_walkBack_245 (by decide) ?_
          refine rn_ialoadN dX8_walkBack_246 (sk_l hs 55 (by decide)) (sk_k55 hs) (by omega) (by omega) ?_
          refine rn_top (y := nI (B 0)) (by rw [hF1.1 55 (by decide) (by decide) (by decide) (by decide)]; exact hT.2 _ (by omega)) ?_
          refine rn_callV0 (st := []) dX8_walkBack_247 cf_8_227 (c_X8_bend hs w1 w8 h1 h8 hW1 wT_of.1 (by omega) (by omega) (hB.2 _ (by omega)) (hB.2 _ (by omega))) (by omega) (sk_l hs 44 (by decide)) (sk_k44 hs) rfl rfl (Nat.le_of_ble_eq_true rfl) (fun r1 S1 J2 hq => ?_)
          obtain ⟨rfl, rfl, hb2, hW2⟩ := hq
          refine rn_iconst (v := nI 0) dX8_walkBack_250 (by decide) ?_
          refine rn_ireturn dX8_walkBack_251 rfl (vp_nar_int _) ?_
          exact ⟨rfl, hF1.trans hb2.fk, Or.inr ⟨_, wR_r hE (fun q => q.elim c_210 (fun q9 => q9 (Prod.ext c_215 c_221))), rfl, hW2⟩⟩
        · refine rn_iconst (v := nI 4) dX8_walkBack_224 (by decide) ?_
          refine rn_ireturn dX8_walkBack_225 rfl (vp_nar_int _) ?_
          exact ⟨rfl, hF1, Or.inl ⟨(4, n), wR_4 hE (by first | exact Or.inl c_210 | exact Or.inr (fun q => c_215 (congrArg Prod.fst q)) | exact Or.inr (fun q => c_221 (congrArg Prod.snd q))), rfl, h18⟩⟩
  have K2 : ∀ (k : Nat) (J1 : am_I), (∀ J : am_I, FK I J → wE w h B i0 j0 (k + 1) = none → WM w h (wT w h B i0 j0 (k + 1)) J → (∀ x, x < 256 → J 60 x = am_b (wG w B i0 j0 (k + 1) x)) → am_Rn 3 Y_X8_walkBack (0, 0) 8 [some (.ref 44), some (.int (nI i0)), some (.int (nI j0)), some (.int (nI ((wP B i0 j0 (k + 1)).1))), some (.int (nI ((wP B i0 j0 (k + 1)).2))), some (.int (nI (k + 1))), none, none, none, none] [] S J (fun r S' I' => S' = S ∧ FK I I' ∧ ((∃ e, wR w h B i0 j0 n = .inl e ∧ r = some (.int (nI e.1)) ∧ I' 44 18 = nI e.2) ∨ ∃ σ, wR w h B i0 j0 n = .inr σ ∧ r = some (.int (nI 0)) ∧ WM w h σ I'))) → k < n → (97 ≤ B k ∧ B k ≤ 100) → inS (rt (B k)) ((wP B i0 j0 k).1) (2 * w) = true → inS (dn (B k)) ((wP B i0 j0 k).2) (2 * h) = true → FK I J1 → wE w h B i0 j0 k = none → WM w h (wT w h B i0 j0 k) J1 → (∀ x, x < 256 → J1 60 x = am_b (wG w B i0 j0 k x)) → J1 44 18 = nI k → am_Rn 3 Y_X8_walkBack (0, 0) 142 [some (.ref 44), some (.int (nI i0)), some (.int (nI j0)), some (.int (nI ((wP B i0 j0 k).1))), some (.int (nI ((wP B i0 j0 k).2))), some (.int (nI k)), some (.int (nI (B k))), some (.int ((nI (wP B i0 j0 k).1) + (sg (rt (B k))))), some (.int ((nI (wP B i0 j0 k).2) + (sg (dn (B k))))), some (.int (nI (wQ w B i0 j0 k)))] [] S J1 (fun r S' I' => S' = S ∧ FK I I' ∧ ((∃ e, wR w h B i0 j0 n = .inl e ∧ r = some (.int (nI e.1)) ∧ I' 44 18 = nI e.2) ∨ ∃ σ, wR w h B i0 j0 n = .inr σ ∧ r = some (.int (nI 0)) ∧ WM w h σ I')) := by
    intro k J1 ih hk h97 h2 h3 hF hE hW hG h18
    have hpp := wP_in hi hj hij hE
    have hQ4 := wQ_b hpp.1 hpp.2.1 h2 h3
    have hb4 : 4 * w * h ≤ 256 := Nat.le_trans (Nat.mul_le_mul (Nat.mul_le_mul_left 4 w8) h8) (by decide)
    have hQ : wQ w B i0 j0 k < 256 := by omega
    refine rn_aload_n dX8_walkBack_142 rfl rfl ?_
    refine rn_getR (r := 60) dX8_walkBack_143 fd_8_64 (sk_l hs 44 (by decide)) (sk_k44 hs) rfl (sk_r44_27 hs) ?_
    refine rn_iload dX8_walkBack_146 rfl ?_
    refine rn_baloadN dX8_walkBack_148 (sk_l hs 60 (by decide)) (sk_k60 hs) (by decide) (by omega) (by omega) ?_
    refine rn_top (y := am_b (wG w B i0 j0 k (wQ w B i0 j0 k))) (hG _ hQ) ?_
    refine rn_if_eqB (tgt := 154) dX8_walkBack_149 (by decide) (fun c_149 => ?_) (fun c_149 => ?_)
    · refine rn_iload dX8_walkBack_154 rfl ?_
      refine rn_if_leN (tgt := 177) dX8_walkBack_156 (by decide) (by omega) (fun c_156 => ?_) (fun c_156 => ?_)
      · refine rn_aload_n dX8_walkBack_177 rfl rfl ?_
        refine rn_getR (r := 60) dX8_walkBack_178 fd_8_64 (sk_l hs 44 (by decide)) (sk_k44 hs) rfl (sk_r44_27 hs) ?_
        refine rn_iload dX8_walkBack_181 rfl ?_
        refine rn_iconst (v := nI 1) dX8_walkBack_183 (by decide) ?_
        refine rn_zastoreN dX8_walkBack_184 (sk_l hs 60 (by decide)) (sk_k60 hs) (by omega) (by omega) (by decide) ?_
        refine rn_iload dX8_walkBack_185 rfl ?_
        refine rn_top (y := nI (mv (rt (B k)) ((wP B i0 j0 k).1))) (sg_mv h2) ?_
        refine rn_istore_n (ls' := [some (.ref 44), some (.int (nI i0)), some (.int (nI j0)), some (.int (nI (mv (rt (B k)) ((wP B i0 j0 k).1)))), some (.int (nI ((wP B i0 j0 k).2))), some (.int (nI k)), some (.int (nI (B k))), some (.int ((nI (wP B i0 j0 k).1) + (sg (rt (B k))))), some (.int ((nI (wP B i0 j0 k).2) + (sg (dn (B k))))), some (.int (nI (wQ w B i0 j0 k)))]) dX8_walkBack_187 rfl (by decide) rfl rfl ?_
        refine rn_iload dX8_walkBack_188 rfl ?_
        refine rn_top (y := nI (mv (dn (B k)) ((wP B i0 j0 k).2))) (sg_mv h3) ?_
        refine rn_istore (ls' := [some (.ref 44), some (.int (nI i0)), some (.int (nI j0)), some (.int (nI (mv (rt (B k)) ((wP B i0 j0 k).1)))), some (.int (nI (mv (dn (B k)) ((wP B i0 j0 k).2)))), some (.int (nI k)), some (.int (nI (B k))), some (.int ((nI (wP B i0 j0 k).1) + (sg (rt (B k))))), some (.int ((nI (wP B i0 j0 k).2) + (sg (dn (B k))))), some (.int (nI (wQ w B i0 j0 k)))]) dX8_walkBack_190 (by decide) rfl rfl ?_
        refine rn_iinc (v := nI (k + 1)) (ls' := [some (.ref 44), some (.int (nI i0)), some (.int (nI j0)), some (.int (nI (mv (rt (B k)) ((wP B i0 j0 k).1)))), some (.int (nI (mv (dn (B k)) ((wP B i0 j0 k).2)))), some (.int (nI (k + 1))), some (.int (nI (B k))), some (.int ((nI (wP B i0 j0 k).1) + (sg (rt (B k))))), some (.int ((nI (wP B i0 j0 k).2) + (sg (dn (B k))))), some (.int (nI (wQ w B i0 j0 k)))]) dX8_walkBack_192 rfl (nI_add _ 1) (by decide) rfl rfl ?_
        refine rn_goto (tgt := 8) dX8_walkBack_195 (by decide) ?_
        refine rn_ls (ls' := [some (.ref 44), some (.int (nI i0)), some (.int (nI j0)), some (.int (nI (mv (rt (B k)) ((wP B i0 j0 k).1)))), some (.int (nI (mv (dn (B k)) ((wP B i0 j0 k).2)))), some (.int (nI (k + 1))), none, none, none, none]) rfl (fun i x h => by rcases i with _ | _ | _ | _ | _ | _ | _ | _ | _ | _ | i <;> first | exact h | (simp at h)) ?_
        have hE1 : wE w h B i0 j0 (k + 1) = none := by rw [wE_s hE, if_pos (wK_z h97 h2 h3 c_149)]
        refine ih _ (hF.g _ _) hE1 (WM.kept (I := J1) ?_ (am_up_a _ _ (by decide)) (am_up_a _ _ (by decide)) (am_up_a _ _ (by decide)) (am_up_a _ _ (by decide)) (by rw [am_up_a _ _ (by decide)])) (fun x hx => wG_up (v := nI 1) rfl (fun h9 => by rw [am_up_k _ _ h9, show J1 60 = J1 60 from rfl]; exact hG x hx) (fun h9 => by rw [h9, am_up_at]) rfl)
        have hk0 : k = 0 := c_156
        subst hk0
        exact hW
      · refine rn_aload_n dX8_walkBack_159 rfl rfl ?_
        refine rn_iload_n dX8_walkBack_160 rfl rfl ?_
        refine rn_iload dX8_walkBack_161 rfl ?_
        refine rn_aload_n dX8_walkBack_163 rfl rfl ?_
        refine rn_getR (r := 55) dX8_walkBack_164 fd_8_42 (sk_l hs 44 (by decide)) (sk_k44 hs) rfl (sk_r44_13 hs) ?_
        refine rn_iload dX8_walkBack_167 rfl ?_
        refine rn_iconst (v := nI 1) dX8_walkBack_169 (by decide) ?_
        refine rn_isub dX8_walkBack_170 ?_
        refine rn_top (pk_sub (by omega)) ?_
        refine rn_ialoadN dX8_walkBack_171 (sk_l hs 55 (by decide)) (sk_k55 hs) (by omega) (by omega) ?_
        refine rn_top (y := nI (B (k - 1))) (by rw [hF.1 55 (by decide) (by decide) (by decide) (by decide)]; exact hT.2 _ (by omega)) ?_
        refine rn_iload dX8_walkBack_172 rfl ?_
        refine rn_callV0 (st := []) dX8_walkBack_174 cf_8_227 (c_X8_bend hs w1 w8 h1 h8 hW wT_of.1 (by omega) (by omega) (hB.2 _ (by omega)) (hB.2 _ (by omega))) (by omega) (sk_l hs 44 (by decide)) (sk_k44 hs) rfl rfl (Nat.le_of_ble_eq_true rfl) (fun r1 S1 J2 hq => ?_)
        obtain ⟨rfl, rfl, hb2, hW2⟩ := hq
        refine rn_aload_n dX8_walkBack_177 rfl rfl ?_
        refine rn_getR (r := 60) dX8_walkBack_178 fd_8_64 (sk_l hs 44 (by decide)) (sk_k44 hs) rfl (sk_r44_27 hs) ?_
        refine rn_iload dX8_walkBack_181 rfl ?_
        refine rn_iconst (v := nI 1) dX8_walkBack_183 (by decide) ?_
        refine rn_zastoreN dX8_walkBack_184 (sk_l hs 60 (by decide)) (sk_k60 hs) (by omega) (by omega) (by decide) ?_
        refine rn_iload dX8_walkBack_185 rfl ?_
        refine rn_top (y := nI (mv (rt (B k)) ((wP B i0 j0 k).1))) (sg_mv h2) ?_
        refine rn_istore_n (ls' := [some (.ref 44), some (.int (nI i0)), some (.int (nI j0)), some (.int (nI (mv (rt (B k)) ((wP B i0 j0 k).1)))), some (.int (nI ((wP B i0 j0 k).2))), some (.int (nI k)), some (.int (nI (B k))), some (.int ((nI (wP B i0 j0 k).1) + (sg (rt (B k))))), some (.int ((nI (wP B i0 j0 k).2) + (sg (dn (B k))))), some (.int (nI (wQ w B i0 j0 k)))]) dX8_walkBack_187 rfl (by decide) rfl rfl ?_
        refine rn_iload dX8_walkBack_188 rfl ?_
        refine rn_top (y := nI (mv (dn (B k)) ((wP B i0 j0 k).2))) (sg_mv h3) ?_
        refine rn_istore (ls' := [some (.ref 44), some (.int (nI i0)), some (.int (nI j0)), some (.int (nI (mv (rt (B k)) ((wP B i0 j0 k).1)))), some (.int (nI (mv (dn (B k)) ((wP B i0 j0 k).2)))), some (.int (nI k)), some (.int (nI (B k))), some (.int ((nI (wP B i0 j0 k).1) + (sg (rt (B k))))), some (.int ((nI (wP B i0 j0 k).2) + (sg (dn (B k))))), some (.int (nI (wQ w B i0 j0 k)))]) dX8_walkBack_190 (by decide) rfl rfl ?_
        refine rn_iinc (v := nI (k + 1)) (ls' := [some (.ref 44), some (.int (nI i0)), some (.int (nI j0)), some (.int (nI (mv (rt (B k)) ((wP B i0 j0 k).1)))), some (.int (nI (mv (dn (B k)) ((wP B i0 j0 k).2)))), some (.int (nI (k + 1))), some (.int (nI (B k))), some (.int ((nI (wP B i0 j0 k).1) + (sg (rt (B k))))), some (.int ((nI (wP B i0 j0 k).2) + (sg (dn (B k))))), some (.int (nI (wQ w B i0 j0 k)))]) dX8_walkBack_192 rfl (nI_add _ 1) (by decide) rfl rfl ?_
        refine rn_goto (tgt := 8) dX8_walkBack_195 (by decide) ?_
        refine rn_ls (ls' := [some (.ref 44), some (.int (nI i0)), some (.int (nI j0)), some (.int (nI (mv (rt (B k)) ((wP B i0 j0 k).1)))), some (.int (nI (mv (dn (B k)) ((wP B i0 j0 k).2)))), some (.int (nI (k + 1))), none, none, none, none]) rfl (fun i x h => by rcases i with _ | _ | _ | _ | _ | _ | _ | _ | _ | _ | i <;> first | exact h | (simp at h)) ?_
        have hE1 : wE w h B i0 j0 (k + 1) = none := by rw [wE_s hE, if_pos (wK_z h97 h2 h3 c_149)]
        refine ih _ ((hF.trans hb2.fk).g _ _) hE1 (WM.kept (I := J2) ?_ (am_up_a _ _ (by decide)) (am_up_a _ _ (by decide)) (am_up_a _ _ (by decide)) (am_up_a _ _ (by decide)) (by rw [am_up_a _ _ (by decide)])) (fun x hx => wG_up (v := nI 1) rfl (fun h9 => by rw [am_up_k _ _ h9, show J2 60 = J1 60 from hb2.1 60 (by decide) (by decide) (by decide)]; exact hG x hx) (fun h9 => by rw [h9, am_up_at]) rfl)
        rw [wT_s (by omega)]; exact hW2
    · refine rn_iconst (v := nI 3) dX8_walkBack_152 (by decide) ?_
      refine rn_ireturn dX8_walkBack_153 rfl (vp_nar_int _) ?_
      exact ⟨rfl, hF, Or.inl ⟨(3, k), wR_e (wE_at hE hk (wK_3 h97 h2 h3 c_149) (by decide)), rfl, h18⟩⟩
  have LP : ∀ k, k ≤ n → ∀ J : am_I, FK I J → wE w h B i0 j0 k = none → WM w h (wT w h B i0 j0 k) J → (∀ x, x < 256 → J 60 x = am_b (wG w B i0 j0 k x)) → am_Rn 3 Y_X8_walkBack (0, 0) 8 [some (.ref 44), some (.int (nI i0)), some (.int (nI j0)), some (.int (nI ((wP B i0 j0 k).1))), some (.int (nI ((wP B i0 j0 k).2))), some (.int (nI k)), none, none, none, none] [] S J (fun r S' I' => S' = S ∧ FK I I' ∧ ((∃ e, wR w h B i0 j0 n = .inl e ∧ r = some (.int (nI e.1)) ∧ I' 44 18 = nI e.2) ∨ ∃ σ, wR w h B i0 j0 n = .inr σ ∧ r = some (.int (nI 0)) ∧ WM w h σ I')) := by
    refine am_loop n (fun k hk ih => ?_)
    intro J hF hE hW hG
    have hpp := wP_in hi hj hij hE
    refine rn_iload dX8_walkBack_8 rfl ?_
    refine rn_aload_n dX8_walkBack_10 rfl rfl ?_
    refine rn_getI dX8_walkBack_11 fd_8_121 (sk_l hs 44 (by decide)) (sk_k44 hs) rfl ?_
    refine rn_top (y := nI n) ((hF.2.1 14 (by decide) (by decide)).trans hT.1) ?_
    refine rn_icmp_geN (tgt := 198) dX8_walkBack_14 (by decide) (by omega) (by omega) (fun c_14 => ?_) (fun c_14 => ?_)
    · obtain rfl : k = n := by omega
      exact EX J hF hE hW
    · refine rn_aload_n dX8_walkBack_17 rfl rfl ?_
      refine rn_getR (r := 55) dX8_walkBack_18 fd_8_42 (sk_l hs 44 (by decide)) (sk_k44 hs) rfl (sk_r44_13 hs) ?_
      refine rn_iload dX8_walkBack_21 rfl ?_
      refine rn_ialoadN dX8_walkBack_23 (sk_l hs 55 (by decide)) (sk_k55 hs) (by omega) (by omega) ?_
      refine rn_top (y := nI (B k)) (by rw [hF.1 55 (by decide) (by decide) (by decide) (by decide)]; exact hT.2 _ c_14) ?_
      refine rn_istore (ls' := [some (.ref 44), some (.int (nI i0)), some (.int (nI j0)), some (.int (nI ((wP B i0 j0 k).1))), some (.int (nI ((wP B i0 j0 k).2))), some (.int (nI k)), some (.int (nI (B k))), none, none, none]) dX8_walkBack_24 (by decide) rfl rfl ?_
      refine rn_aload_n dX8_walkBack_26 rfl rfl ?_
      refine rn_iload dX8_walkBack_27 rfl ?_
      refine rn_putI dX8_walkBack_29 fd_8_154 (sk_l hs 44 (by decide)) (sk_k44 hs) rfl rfl (vp_nar_int _) rfl ?_
      obtain ⟨J1, hJ1⟩ : ∃ J9 : am_I, J9 = am_up J 44 18 (nI k) := ⟨_, rfl⟩
      refine rn_I hJ1.symm ?_
      have hF1 : FK I J1 := by rw [hJ1]; exact hF.p _
      have h18 : J1 44 18 = nI k := by rw [hJ1, am_up_at]
      have hW1 : WM w h (wT w h B i0 j0 k) J1 := hW.kept (by rw [hJ1, am_up_a _ _ (by decide)]) (by rw [hJ1, am_up_a _ _ (by decide)]) (by rw [hJ1, am_up_a _ _ (by decide)]) (by rw [hJ1, am_up_a _ _ (by decide)]) (by rw [hJ1, am_up_k _ _ (by decide)])
      have hG1 : (∀ x, x < 256 → J1 60 x = am_b (wG w B i0 j0 k x)) := by rw [hJ1, am_up_a _ _ (by decide)]; exact hG
      have hbk := hB.2 k c_14
      refine rn_iload dX8_walkBack_32 rfl ?_
      refine rn_bipush (v := nI 97) dX8_walkBack_34 (by decide) ?_
      refine rn_bipush (v := nI 100) dX8_walkBack_36 (by decide) ?_
      refine rn_callSq (st := []) dX8_walkBack_38 cf_8_70 (m_isInN _ _ (by omega) (by decide) (by decide)) (by omega) rfl rfl (Nat.le_of_ble_eq_true rfl) ?_
      refine rn_if_neB (tgt := 46) dX8_walkBack_41 (by decide) (fun c_41 => ?_) (fun c_41 => ?_)
      · refine rn_iload_n dX8_walkBack_46 rfl rfl ?_
        refine rn_iload dX8_walkBack_47 rfl ?_
        refine rn_callSq (st := [.int (nI ((wP B i0 j0 k).1))]) dX8_walkBack_49 cf_8_218 (m_dxOf _ _ (by omega)) (by omega) rfl rfl (Nat.le_of_ble_eq_true rfl) ?_
        refine rn_iadd dX8_walkBack_52 ?_
        refine rn_istore (ls' := [some (.ref 44), some (.int (nI i0)), some (.int (nI j0)), some (.int (nI ((wP B i0 j0 k).1))), some (.int (nI ((wP B i0 j0 k).2))), some (.int (nI k)), some (.int (nI (B k))), some (.int ((nI ((wP B i0 j0 k).1)) + (sg (rt (B k))))), none, none]) dX8_walkBack_53 (by decide) rfl rfl ?_
        refine rn_iload dX8_walkBack_55 rfl ?_
        refine rn_iload dX8_walkBack_57 rfl ?_
        refine rn_callSq (st := [.int (nI ((wP B i0 j0 k).2))]) dX8_walkBack_59 cf_8_221 (m_dyOf _ _ (by omega)) (by omega) rfl rfl (Nat.le_of_ble_eq_true rfl) ?_
        refine rn_iadd dX8_walkBack_62 ?_
        refine rn_istore (ls' := [some (.ref 44), some (.int (nI i0)), some (.int (nI j0)), some (.int (nI ((wP B i0 j0 k).1))), some (.int (nI ((wP B i0 j0 k).2))), some (.int (nI k)), some (.int (nI (B k))), some (.int ((nI ((wP B i0 j0 k).1)) + (sg (rt (B k))))), some (.int ((nI ((wP B i0 j0 k).2)) + (sg (dn (B k))))), none]) dX8_walkBack_63 (by decide) rfl rfl ?_
        refine rn_iload dX8_walkBack_65 rfl ?_
        refine rn_iconst (v := nI 0) dX8_walkBack_67 (by decide) ?_
        refine rn_iconst (v := nI 2) dX8_walkBack_68 (by decide) ?_
        refine rn_aload_n dX8_walkBack_69 rfl rfl ?_
        refine rn_getR (r := 45) dX8_walkBack_70 fd_8_7 (sk_l hs 44 (by decide)) (sk_k44 hs) rfl (sk_r44_0 hs) ?_
        refine rn_bipush (v := nI 18) dX8_walkBack_73 (by decide) ?_
        refine rn_ialoadN dX8_walkBack_75 (sk_l hs 45 (by decide)) (sk_k45 hs) (by omega) (by omega) ?_
        refine rn_top (y := nI w) (hW1.1.1) ?_
        refine rn_imul dX8_walkBack_76 ?_
        refine rn_top (pk_mul _ _) ?_
        refine rn_callSq (st := []) dX8_walkBack_77 cf_8_70 (m_isInS _ _ hpp.1 (by omega)) (by omega) rfl rfl (Nat.le_of_ble_eq_true rfl) ?_
        refine rn_if_eqB (tgt := 101) dX8_walkBack_80 (by decide) (fun c_80 => ?_) (fun c_80 => ?_)
        · refine rn_iconst (v := nI 2) dX8_walkBack_101 (by decide) ?_
          refine rn_ireturn dX8_walkBack_102 rfl (vp_nar_int _) ?_
          exact ⟨rfl, hF1, Or.inl ⟨(2, k), wR_e (wE_at hE c_14 (wK_2 (of_decide_eq_true c_41) (fun q => by first | (rw [q.1] at c_80; exact absurd c_80 (by decide)) | (rw [q.2] at c_98; exact absurd c_98 (by decide)))) (by decide)), rfl, h18⟩⟩
        · refine rn_iload dX8_walkBack_83 rfl ?_
          refine rn_iconst (v := nI 0) dX8_walkBack_85 (by decide) ?_
          refine rn_iconst (v := nI 2) dX8_walkBack_86 (by decide) ?_
          refine rn_aload_n dX8_walkBack_87 rfl rfl ?_
          refine rn_getR (r := 46) dX8_walkBack_88 fd_8_13 (sk_l hs 44 (by decide)) (sk_k44 hs) rfl (sk_r44_1 hs) ?_
          refine rn_bipush (v := nI 18) dX8_walkBack_91 (by decide) ?_
          refine rn_ialoadN dX8_walkBack_93 (sk_l hs 46 (by decide)) (sk_k46 hs) (by omega) (by omega) ?_
          refine rn_top (y := nI h) (hW1.1.2.1) ?_
          refine rn_imul dX8_walkBack_94 ?_
          refine rn_top (pk_mul _ _) ?_
          refine rn_callSq (st := []) dX8_walkBack_95 cf_8_70 (m_isInS _ _ hpp.2.1 (by omega)) (by omega) rfl rfl (Nat.le_of_ble_eq_true rfl) ?_
          refine rn_if_neB (tgt := 103) dX8_walkBack_98 (by decide) (fun c_98 => ?_) (fun c_98 => ?_)
          · have hmj := mv_le c_98 hpp.2.1
            have hmi := mv_le c_80 hpp.1
            refine rn_iconst (v := nI 2) dX8_walkBack_103 (by decide) ?_
            refine rn_aload_n dX8_walkBack_104 rfl rfl ?_
            refine rn_getR (r := 45) dX8_walkBack_105 fd_8_7 (sk_l hs 44 (by decide)) (sk_k44 hs) rfl (sk_r44_0 hs) ?_
            refine rn_bipush (v := nI 18) dX8_walkBack_108 (by decide) ?_
            refine rn_ialoadN dX8_walkBack_110 (sk_l hs 45 (by decide)) (sk_k45 hs) (by omega) (by omega) ?_
            refine rn_top (y := nI w) (hW1.1.1) ?_
            refine rn_imul dX8_walkBack_111 ?_
            refine rn_top (pk_mul _ _) ?_
            refine rn_iload dX8_walkBack_112 rfl ?_
            refine rn_top (y := nI (mv (dn (B k)) ((wP B i0 j0 k).2))) (sg_mv c_98) ?_
            refine rn_iload dX8_walkBack_114 rfl ?_
            refine rn_icmp_geN (tgt := 124) dX8_walkBack_116 (by decide) (by omega) (by omega) (fun c_116 => ?_) (fun c_116 => ?_)
            · refine rn_iload dX8_walkBack_124 rfl ?_
              refine rn_top (y := nI (lw (dn (B k)) ((wP B i0 j0 k).2))) (congrArg nI (lw_a c_98 c_116)) ?_
              refine rn_imul dX8_walkBack_126 ?_
              refine rn_top (pk_mul _ _) ?_
              refine rn_iload dX8_walkBack_127 rfl ?_
              refine rn_top (y := nI (mv (rt (B k)) ((wP B i0 j0 k).1))) (sg_mv c_80) ?_
              refine rn_iload_n dX8_walkBack_129 rfl rfl ?_
              refine rn_icmp_geN (tgt := 138) dX8_walkBack_130 (by decide) (by omega) (by omega) (fun c_130 => ?_) (fun c_130 => ?_)
              · refine rn_iload_n dX8_walkBack_138 rfl rfl ?_
                refine rn_top (y := nI (lw (rt (B k)) ((wP B i0 j0 k).1))) (congrArg nI (lw_a c_80 c_130)) ?_
                refine rn_iadd dX8_walkBack_139 ?_
                refine rn_top (nI_add _ _) ?_
                refine rn_top (y := nI (wQ w B i0 j0 k)) (rfl) ?_
                refine rn_istore (ls' := [some (.ref 44), some (.int (nI i0)), some (.int (nI j0)), some (.int (nI ((wP B i0 j0 k).1))), some (.int (nI ((wP B i0 j0 k).2))), some (.int (nI k)), some (.int (nI (B k))), some (.int ((nI ((wP B i0 j0 k).1)) + (sg (rt (B k))))), some (.int ((nI ((wP B i0 j0 k).2)) + (sg (dn (B k))))), some (.int (nI (wQ w B i0 j0 k)))]) dX8_walkBack_140 (by decide) rfl rfl ?_
                exact K2 k J1 (ih c_14) c_14 (of_decide_eq_true c_41) c_80 c_98 hF1 hE hW1 hG1 h18
              · refine rn_iload dX8_walkBack_133 rfl ?_
                refine rn_top (y := nI (lw (rt (B k)) ((wP B i0 j0 k).1))) ((sg_mv c_80).trans (congrArg nI (lw_b c_80 c_130))) ?_
                refine rn_goto (tgt := 139) dX8_walkBack_135 (by decide) ?_
                refine rn_iadd dX8_walkBack_139 ?_
                refine rn_top (nI_add _ _) ?_
                refine rn_top (y := nI (wQ w B i0 j0 k)) (rfl) ?_
                refine rn_istore (ls' := [some (.ref 44), some (.int (nI i0)), some (.int (nI j0)), some (.int (nI ((wP B i0 j0 k).1))), some (.int (nI ((wP B i0 j0 k).2))), some (.int (nI k)), some (.int (nI (B k))), some (.int ((nI ((wP B i0 j0 k).1)) + (sg (rt (B k))))), some (.int ((nI ((wP B i0 j0 k).2)) + (sg (dn (B k))))), some (.int (nI (wQ w B i0 j0 k)))]) dX8_walkBack_140 (by decide) rfl rfl ?_
                exact K2 k J1 (ih c_14) c_14 (of_decide_eq_true c_41) c_80 c_98 hF1 hE hW1 hG1 h18
            · refine rn_iload dX8_walkBack_119 rfl ?_
              refine rn_top (y := nI (lw (dn (B k)) ((wP B i0 j0 k).2))) ((sg_mv c_98).trans (congrArg nI (lw_b c_98 c_116))) ?_
              refine rn_goto (tgt := 126) dX8_walkBack_121 (by decide) ?_
              refine rn_imul dX8_walkBack_126 ?_
              refine rn_top (pk_mul _ _) ?_
              refine rn_iload dX8_walkBack_127 rfl ?_
              refine rn_top (y := nI (mv (rt (B k)) ((wP B i0 j0 k).1))) (sg_mv c_80) ?_
              refine rn_iload_n dX8_walkBack_129 rfl rfl ?_
              refine rn_icmp_geN (tgt := 138) dX8_walkBack_130 (by decide) (by omega) (by omega) (fun c_130 => ?_) (fun c_130 => ?_)
              · refine rn_iload_n dX8_walkBack_138 rfl rfl ?_
                refine rn_top (y := nI (lw (rt (B k)) ((wP B i0 j0 k).1))) (congrArg nI (lw_a c_80 c_130)) ?_
                refine rn_iadd dX8_walkBack_139 ?_
                refine rn_top (nI_add _ _) ?_
                refine rn_top (y := nI (wQ w B i0 j0 k)) (rfl) ?_
                refine rn_istore (ls' := [some (.ref 44), some (.int (nI i0)), some (.int (nI j0)), some (.int (nI ((wP B i0 j0 k).1))), some (.int (nI ((wP B i0 j0 k).2))), some (.int (nI k)), some (.int (nI (B k))), some (.int ((nI ((wP B i0 j0 k).1)) + (sg (rt (B k))))), some (.int ((nI ((wP B i0 j0 k).2)) + (sg (dn (B k))))), some (.int (nI (wQ w B i0 j0 k)))]) dX8_walkBack_140 (by decide) rfl rfl ?_
                exact K2 k J1 (ih c_14) c_14 (of_decide_eq_true c_41) c_80 c_98 hF1 hE hW1 hG1 h18
              · refine rn_iload dX8_walkBack_133 rfl ?_
                refine rn_top (y := nI (lw (rt (B k)) ((wP B i0 j0 k).1))) ((sg_mv c_80).trans (congrArg nI (lw_b c_80 c_130))) ?_
                refine rn_goto (tgt := 139) dX8_walkBack_135 (by decide) ?_
                refine rn_iadd dX8_walkBack_139 ?_
                refine rn_top (nI_add _ _) ?_
                refine rn_top (y := nI (wQ w B i0 j0 k)) (rfl) ?_
                refine rn_istore (ls' := [some (.ref 44), some (.int (nI i0)), some (.int (nI j0)), some (.int (nI ((wP B i0 j0 k).1))), some (.int (nI ((wP B i0 j0 k).2))), some (.int (nI k)), some (.int (nI (B k))), some (.int ((nI ((wP B i0 j0 k).1)) + (sg (rt (B k))))), some (.int ((nI ((wP B i0 j0 k).2)) + (sg (dn (B k))))), some (.int (nI (wQ w B i0 j0 k)))]) dX8_walkBack_140 (by decide) rfl rfl ?_
                exact K2 k J1 (ih c_14) c_14 (of_decide_eq_true c_41) c_80 c_98 hF1 hE hW1 hG1 h18
          · refine rn_iconst (v := nI 2) dX8_walkBack_101 (by decide) ?_
            refine rn_ireturn dX8_walkBack_102 rfl (vp_nar_int _) ?_
            exact ⟨rfl, hF1, Or.inl ⟨(2, k), wR_e (wE_at hE c_14 (wK_2 (of_decide_eq_true c_41) (fun q => by first | (rw [q.1] at c_80; exact absurd c_80 (by decide)) | (rw [q.2] at c_98; exact absurd c_98 (by decide)))) (by decide)), rfl, h18⟩⟩
      · refine rn_iconst (v := nI 1) dX8_walkBack_44 (by decide) ?_
        refine rn_ireturn dX8_walkBack_45 rfl (vp_nar_int _) ?_
        exact ⟨rfl, hF1, Or.inl ⟨(1, k), wR_e (wE_at hE c_14 (wK_1 (of_decide_eq_false c_41)) (by decide)), rfl, h18⟩⟩
  refine am_mt ⟨by decide +kernel, rfl⟩ (Nat.le_of_ble_eq_true rfl) rfl ?_
  refine rn_iload_n dX8_walkBack_0 rfl rfl ?_
  refine rn_istore_n (ls' := [some (.ref 44), some (.int (nI i0)), some (.int (nI j0)), some (.int (nI i0)), none, none, none, none, none, none]) dX8_walkBack_1 rfl (by decide) rfl rfl ?_
  refine rn_iload_n dX8_walkBack_2 rfl rfl ?_
  refine rn_istore (ls' := [some (.ref 44), some (.int (nI i0)), some (.int (nI j0)), some (.int (nI i0)), some (.int (nI j0)), none, none, none, none, none]) dX8_walkBack_3 (by decide) rfl rfl ?_
  refine rn_iconst (v := nI 0) dX8_walkBack_5 (by decide) ?_
  refine rn_istore (ls' := [some (.ref 44), some (.int (nI i0)), some (.int (nI j0)), some (.int (nI i0)), some (.int (nI j0)), some (.int (nI 0)), none, none, none, none]) dX8_walkBack_6 (by decide) rfl rfl ?_
  exact LP 0 (Nat.zero_le _) I FK.rf rfl hW hG
set_option maxHeartbeats 1000000 in
set_option maxRecDepth 100000 in
theorem c_X8_back_y {S : am_S} (hs : sk S) {I : am_I} {w h : Nat} (w1 : 1 ≤ w) (w8 : w ≤ 8) (h1 : 1 ≤ h) (h8 : h ≤ 8) {n : Nat} {B : Nat → Nat} (hT : tM2 n B I) (hB : okB n B) {i0 j0 : Nat} (hi : i0 ≤ 2 * w) (hj : j0 ≤ 2 * h) (hij : (i0 + j0) % 2 = 1) : am_Mt 4 Y_X8_back (0, 0) [.ref 44, .int (nI w), .int (nI h), .int (nI i0), .int (nI j0)] S I (fun r S' I' => r = some (.int (vBk w h B i0 j0 n)) ∧ S' = S ∧ MX (wD w h B i0 j0 n) I I') := by
  have h200 := hB.1
  have TL : ∀ I1 : am_I, grD I1 18 (w, h, zM) → gfr (fun x => x = 18) I I1 → ∀ J : am_I, (∀ b, b ≠ 60 → b ≠ 61 → J b = I1 b) → (∀ x, x < 256 → J 60 x = am_b false) → (∀ x, x < 289 → J 61 x = nI 0) → am_Rn 4 Y_X8_back (0, 0) 112 [some (.ref 44), some (.int (nI w)), some (.int (nI h)), some (.int (nI i0)), some (.int (nI j0)), none] [] S J (fun r S' I' => r = some (.int (vBk w h B i0 j0 n)) ∧ S' = S ∧ MX (wD w h B i0 j0 n) I I') := by
    intro I1 hD1 hF1 J hr hz1 hz2
    rcases hX : wR w h B i0 j0 n with e | σ
    · refine rn_aload_n dX8_back_112 rfl rfl ?_
      refine rn_iconst (v := nI 0) dX8_back_113 (by decide) ?_
      refine rn_putI dX8_back_114 fd_8_224 (sk_l hs 44 (by decide)) (sk_k44 hs) rfl rfl (vp_nar_int _) rfl ?_
      obtain ⟨J1, hJ1⟩ : ∃ J9 : am_I, J9 = am_up J 44 29 (nI 0) := ⟨_, rfl⟩
      refine rn_I hJ1.symm ?_
      have o1 : ∀ b, b ≠ 44 → J1 b = J b := fun b hb => by rw [hJ1, am_up_a _ _ hb]
      have o2 : ∀ k, k ≠ 29 → J1 44 k = J 44 k := fun k hk => by rw [hJ1, am_up_k _ _ hk]
      have hW1 : WM w h (zM, zM, 0) J1 := ⟨grD.same (D := (w, h, zM)) hD1 (gS.of 18 ((o1 45 (by decide)).trans (hr 45 (by decide) (by decide))) ((o1 46 (by decide)).trans (hr 46 (by decide) (by decide))) ((o1 47 (by decide)).trans (hr 47 (by decide) (by decide)))), fun i j hi hj => by rw [o1 61 (by decide)]; exact hz2 _ (by omega), by rw [hJ1, am_up_at]⟩
      have q44 : ∀ k, k ≠ 29 → J1 44 k = I 44 k := fun k hk => by rw [o2 k hk, hr 44 (by decide) (by decide), hF1.1 44 (by decide) (by decide) (by decide)]
      have qb : ∀ b, b ≠ 44 → b ≠ 45 → b ≠ 46 → b ≠ 47 → b ≠ 60 → b ≠ 61 → J1 b = I b := fun b h1 h2 h3 h4 h5 h6 => by rw [o1 b h1, hr b h5 h6, hF1.1 b h2 h3 h4]
      have qg : ∀ g, g < 18 → gS I J1 g := fun g hg => gS.trans (hF1.2 g (by omega)) (gS.of g ((o1 45 (by decide)).trans (hr 45 (by decide) (by decide))) ((o1 46 (by decide)).trans (hr 46 (by decide) (by decide))) ((o1 47 (by decide)).trans (hr 47 (by decide) (by decide))))
      have hT1 : tM2 n B J1 := hT.kept (q44 14 (by decide)) (qb 55 (by decide) (by decide) (by decide) (by decide) (by decide) (by decide))
      refine rn_aload_n dX8_back_117 rfl rfl ?_
      refine rn_aload_n dX8_back_118 rfl rfl ?_
      refine rn_iload_n dX8_back_119 rfl rfl ?_
      refine rn_iload dX8_back_120 rfl ?_
      refine rn_callV0 (st := [.ref 44]) dX8_back_122 cf_8_230 (c_X8_walkBack hs w1 w8 h1 h8 hT1 hB hi hj hij hW1 (fun x hx => by rw [o1 60 (by decide)]; exact hz1 x hx)) (by omega) (sk_l hs 44 (by decide)) (sk_k44 hs) rfl rfl (Nat.le_of_ble_eq_true rfl) (fun r1 S1 K1 hq => ?_)
      obtain ⟨rfl, hF2, ⟨e9, he, rfl, h18⟩ | ⟨σ, he, _⟩⟩ := hq
      rotate_left
      · rw [hX] at he; exact absurd he (by simp)
      rw [hX] at he
      obtain rfl := Sum.inl.inj he
      have hea := wR_err hX
      refine rn_callVq (st := []) dX8_back_125 cf_8_215 (c_X8_isTold_e hs hea.1 hea.2) (by omega) (sk_l hs 44 (by decide)) (sk_k44 hs) rfl rfl (Nat.le_of_ble_eq_true rfl) ?_
      refine rn_if_eqN (tgt := 138) dX8_back_128 (by decide) (by omega) (fun c_128 => ?_) (fun c_128 => ?_)
      · refine rn_iconst (v := (-1)) dX8_back_138 (by decide) ?_
        refine rn_ireturn dX8_back_139 rfl (vp_nar_int _) ?_
        have t3 := tdI_v K1 (nI e.1) (K1 44 18)
        rw [vBk_l hX, wD_l hX]
        refine ⟨rfl, rfl, fun b hb => ?_, t3.1, t3.2.1, t3.2.2.trans h18, fun g _ h9 => ((qg g (by omega)).trans (hF2.2.2 g (by omega))).trans (gS.of g (tdI_o (by decide)) (tdI_o (by decide)) (tdI_o (by decide))), Or.inl ⟨e, rfl, ((qg 0 (by decide)).trans (hF2.2.2 0 (by decide))).trans (gS.of 0 (tdI_o (by decide)) (tdI_o (by decide)) (tdI_o (by decide))), ?_⟩⟩
        · rw [tdI_o (by omega), hF2.1 b (by omega) (by omega) (by omega) (by omega)]; exact qb b (by omega) (by omega) (by omega) (by omega) (by omega) (by omega)
        · rw [tdI_o (by decide), hF2.1 48 (by decide) (by decide) (by decide) (by decide)]; exact qb 48 (by decide) (by decide) (by decide) (by decide) (by decide) (by decide)
      · exact absurd c_128 (by decide)
    · refine rn_aload_n dX8_back_112 rfl rfl ?_
      refine rn_iconst (v := nI 0) dX8_back_113 (by decide) ?_
      refine rn_putI dX8_back_114 fd_8_224 (sk_l hs 44 (by decide)) (sk_k44 hs) rfl rfl (vp_nar_int _) rfl ?_
      obtain ⟨J1, hJ1⟩ : ∃ J9 : am_I, J9 = am_up J 44 29 (nI 0) := ⟨_, rfl⟩
      refine rn_I hJ1.symm ?_
      have o1 : ∀ b, b ≠ 44 → J1 b = J b := fun b hb => by rw [hJ1, am_up_a _ _ hb]
      have o2 : ∀ k, k ≠ 29 → J1 44 k = J 44 k := fun k hk => by rw [hJ1, am_up_k _ _ hk]
      have hW1 : WM w h (zM, zM, 0) J1 := ⟨grD.same (D := (w, h, zM)) hD1 (gS.of 18 ((o1 45 (by decide)).trans (hr 45 (by decide) (by decide))) ((o1 46 (by decide)).trans (hr 46 (by decide) (by decide))) ((o1 47 (by decide)).trans (hr 47 (by decide) (by decide)))), fun i j hi hj => by rw [o1 61 (by decide)]; exact hz2 _ (by omega), by rw [hJ1, am_up_at]⟩
      have q44 : ∀ k, k ≠ 29 → J1 44 k = I 44 k := fun k hk => by rw [o2 k hk, hr 44 (by decide) (by decide), hF1.1 44 (by decide) (by decide) (by decide)]
      have qb : ∀ b, b ≠ 44 → b ≠ 45 → b ≠ 46 → b ≠ 47 → b ≠ 60 → b ≠ 61 → J1 b = I b := fun b h1 h2 h3 h4 h5 h6 => by rw [o1 b h1, hr b h5 h6, hF1.1 b h2 h3 h4]
      have qg : ∀ g, g < 18 → gS I J1 g := fun g hg => gS.trans (hF1.2 g (by omega)) (gS.of g ((o1 45 (by decide)).trans (hr 45 (by decide) (by decide))) ((o1 46 (by decide)).trans (hr 46 (by decide) (by decide))) ((o1 47 (by decide)).trans (hr 47 (by decide) (by decide))))
      have hT1 : tM2 n B J1 := hT.kept (q44 14 (by decide)) (qb 55 (by decide) (by decide) (by decide) (by decide) (by decide) (by decide))
      refine rn_aload_n dX8_back_117 rfl rfl ?_
      refine rn_aload_n dX8_back_118 rfl rfl ?_
      refine rn_iload_n dX8_back_119 rfl rfl ?_
      refine rn_iload dX8_back_120 rfl ?_
      refine rn_callV0 (st := [.ref 44]) dX8_back_122 cf_8_230 (c_X8_walkBack hs w1 w8 h1 h8 hT1 hB hi hj hij hW1 (fun x hx => by rw [o1 60 (by decide)]; exact hz1 x hx)) (by omega) (sk_l hs 44 (by decide)) (sk_k44 hs) rfl rfl (Nat.le_of_ble_eq_true rfl) (fun r1 S1 K1 hq => ?_)
      obtain ⟨rfl, hF2, ⟨e9, he, _⟩ | ⟨σ9, he, rfl, hW2⟩⟩ := hq
      · rw [hX] at he; exact absurd he (by simp)
      rw [hX] at he
      obtain rfl := Sum.inr.inj he
      refine rn_callV0 (st := []) dX8_back_125 cf_8_215 (c_X8_isTold_0 (D := (w, h, σ.1)) hs ⟨⟨w1, w8⟩, ⟨h1, h8⟩, wR_ok hX⟩ hW2.1) (by omega) (sk_l hs 44 (by decide)) (sk_k44 hs) rfl rfl (Nat.le_of_ble_eq_true rfl) (fun r1 S1 K2 hq => ?_)
      obtain ⟨rfl, rfl, g14, g15, g16, gD, gz, gb, gg, gk⟩ := hq
      refine rn_if_eqN (tgt := 138) dX8_back_128 (by decide) (by omega) (fun c_128 => ?_) (fun c_128 => ?_)
      · exact absurd c_128 (by decide)
      · refine rn_aload_n dX8_back_131 rfl rfl ?_
        refine rn_getI dX8_back_132 fd_8_224 (sk_l hs 44 (by decide)) (sk_k44 hs) rfl ?_
        refine rn_top (y := nI σ.2.2) ((gk 29 (by decide)).trans hW2.2.2) ?_
        refine rn_goto (tgt := 139) dX8_back_135 (by decide) ?_
        refine rn_ireturn dX8_back_139 rfl (vp_nar_int _) ?_
        rw [vBk_r hX, wD_r hX]
        exact ⟨rfl, rfl, fun b hb => by rw [gb b (by omega), hF2.1 b (by omega) (by omega) (by omega) (by omega)]; exact qb b (by omega) (by omega) (by omega) (by omega) (by omega) (by omega), g14, g15, g16, fun g h8 h9 => ((qg g (by omega)).trans (hF2.2.2 g (by omega))).trans (gg g h8), Or.inr ⟨_, rfl, ⟨⟨w1, w8⟩, ⟨h1, h8⟩, wR_ok hX⟩, gD, gz⟩⟩
  have L2 : ∀ I1 : am_I, grD I1 18 (w, h, zM) → gfr (fun x => x = 18) I I1 → ∀ k, k ≤ 289 → ∀ J : am_I, (∀ b, b ≠ 60 → b ≠ 61 → J b = I1 b) → (∀ x, x < 256 → J 60 x = am_b false) → (∀ x, x < k → J 61 x = nI 0) → am_Rn 4 Y_X8_back (0, 0) 90 [some (.ref 44), some (.int (nI w)), some (.int (nI h)), some (.int (nI i0)), some (.int (nI j0)), some (.int (nI k))] [] S J (fun r S' I' => r = some (.int (vBk w h B i0 j0 n)) ∧ S' = S ∧ MX (wD w h B i0 j0 n) I I') := by
    intro I1 hD1 hF1
    refine am_loop 289 (fun k hk ih => ?_)
    intro J hr hz1 hz2
    refine rn_iload dX8_back_90 rfl ?_
    refine rn_sipush (v := nI 289) dX8_back_92 (by decide) ?_
    refine rn_icmp_geN (tgt := 112) dX8_back_95 (by decide) (by omega) (by omega) (fun c_95 => ?_) (fun c_95 => ?_)
    · obtain rfl : k = 289 := by omega
      refine rn_ls (ls' := [some (.ref 44), some (.int (nI w)), some (.int (nI h)), some (.int (nI i0)), some (.int (nI j0)), none]) rfl (fun i x h => by rcases i with _ | _ | _ | _ | _ | _ | i <;> first | exact h | (simp at h)) ?_
      exact TL I1 hD1 hF1 J hr hz1 hz2
    · refine rn_aload_n dX8_back_98 rfl rfl ?_
      refine rn_getR (r := 61) dX8_back_99 fd_8_67 (sk_l hs 44 (by decide)) (sk_k44 hs) rfl (sk_r44_28 hs) ?_
      refine rn_iload dX8_back_102 rfl ?_
      refine rn_iconst (v := nI 0) dX8_back_104 (by decide) ?_
      refine rn_zastoreN dX8_back_105 (sk_l hs 61 (by decide)) (sk_k61 hs) (by omega) (by omega) (by decide) ?_
      refine rn_iinc (v := nI (k + 1)) (ls' := [some (.ref 44), some (.int (nI w)), some (.int (nI h)), some (.int (nI i0)), some (.int (nI j0)), some (.int (nI (k + 1)))]) dX8_back_106 rfl (nI_add _ 1) (by decide) rfl rfl ?_
      refine rn_goto (tgt := 90) dX8_back_109 (by decide) ?_
      exact ih c_95 _ (fun b h1 h2 => by rw [am_up_a _ _ h2]; exact hr b h1 h2) (fun x hx => by rw [am_up_a _ _ (by decide)]; exact hz1 x hx) (fun x hx => by
        by_cases h9 : x = k
        · rw [h9, am_up_at]
        · rw [am_up_k _ _ h9]; exact hz2 x (by omega))
  have L1 : ∀ I1 : am_I, grD I1 18 (w, h, zM) → gfr (fun x => x = 18) I I1 → ∀ k, k ≤ 256 → ∀ J : am_I, (∀ b, b ≠ 60 → J b = I1 b) → (∀ x, x < k → J 60 x = am_b false) → am_Rn 4 Y_X8_back (0, 0) 65 [some (.ref 44), some (.int (nI w)), some (.int (nI h)), some (.int (nI i0)), some (.int (nI j0)), some (.int (nI k))] [] S J (fun r S' I' => r = some (.int (vBk w h B i0 j0 n)) ∧ S' = S ∧ MX (wD w h B i0 j0 n) I I') := by
    intro I1 hD1 hF1
    refine am_loop 256 (fun k hk ih => ?_)
    intro J hr hz1
    refine rn_iload dX8_back_65 rfl ?_
    refine rn_sipush (v := nI 256) dX8_back_67 (by decide) ?_
    refine rn_icmp_geN (tgt := 87) dX8_back_70 (by decide) (by omega) (by omega) (fun c_70 => ?_) (fun c_70 => ?_)
    · refine rn_iconst (v := nI 0) dX8_back_87 (by decide) ?_
      refine rn_istore (ls' := [some (.ref 44), some (.int (nI w)), some (.int (nI h)), some (.int (nI i0)), some (.int (nI j0)), some (.int (nI 0))]) dX8_back_88 (by decide) rfl rfl ?_
      obtain rfl : k = 256 := by omega
      exact L2 I1 hD1 hF1 0 (Nat.zero_le _) J (fun b h1 _ => hr b h1) hz1 (fun x hx => absurd hx (Nat.not_lt_zero _))
    · refine rn_aload_n dX8_back_73 rfl rfl ?_
      refine rn_getR (r := 60) dX8_back_74 fd_8_64 (sk_l hs 44 (by decide)) (sk_k44 hs) rfl (sk_r44_27 hs) ?_
      refine rn_iload dX8_back_77 rfl ?_
      refine rn_iconst (v := nI 0) dX8_back_79 (by decide) ?_
      refine rn_zastoreN dX8_back_80 (sk_l hs 60 (by decide)) (sk_k60 hs) (by omega) (by omega) (by decide) ?_
      refine rn_iinc (v := nI (k + 1)) (ls' := [some (.ref 44), some (.int (nI w)), some (.int (nI h)), some (.int (nI i0)), some (.int (nI j0)), some (.int (nI (k + 1)))]) dX8_back_81 rfl (nI_add _ 1) (by decide) rfl rfl ?_
      refine rn_goto (tgt := 65) dX8_back_84 (by decide) ?_
      exact ih c_70 _ (fun b h1 => by rw [am_up_a _ _ h1]; exact hr b h1) (fun x hx => by
        by_cases h9 : x = k
        · rw [h9, am_up_at]; decide
        · rw [am_up_k _ _ h9]; exact hz1 x (by omega))
  refine am_mt ⟨by decide +kernel, rfl⟩ (Nat.le_of_ble_eq_true rfl) rfl ?_
  refine rn_iload_n dX8_back_0 rfl rfl ?_
  refine rn_iconst (v := nI 1) dX8_back_1 (by decide) ?_
  refine rn_bipush (v := nI 8) dX8_back_2 (by decide) ?_
  refine rn_callSq (st := []) dX8_back_4 cf_8_70 (m_isInN _ _ (by omega) (by omega) (by omega)) (by omega) rfl rfl (Nat.le_of_ble_eq_true rfl) ?_
  refine rn_if_eqB (tgt := 52) dX8_back_7 (by decide) (fun c_7 => ?_) (fun c_7 => ?_)
  · exact absurd (by omega) (of_decide_eq_false c_7)
  · refine rn_iload_n dX8_back_10 rfl rfl ?_
    refine rn_iconst (v := nI 1) dX8_back_11 (by decide) ?_
    refine rn_bipush (v := nI 8) dX8_back_12 (by decide) ?_
    refine rn_callSq (st := []) dX8_back_14 cf_8_70 (m_isInN _ _ (by omega) (by omega) (by omega)) (by omega) rfl rfl (Nat.le_of_ble_eq_true rfl) ?_
    refine rn_if_eqB (tgt := 52) dX8_back_17 (by decide) (fun c_17 => ?_) (fun c_17 => ?_)
    · exact absurd (by omega) (of_decide_eq_false c_17)
    · refine rn_iload_n dX8_back_20 rfl rfl ?_
      refine rn_iconst (v := nI 0) dX8_back_21 (by decide) ?_
      refine rn_iconst (v := nI 2) dX8_back_22 (by decide) ?_
      refine rn_iload_n dX8_back_23 rfl rfl ?_
      refine rn_imul dX8_back_24 ?_
      refine rn_top (pk_mul _ _) ?_
      refine rn_callSq (st := []) dX8_back_25 cf_8_70 (m_isInN _ _ (by omega) (by omega) (by omega)) (by omega) rfl rfl (Nat.le_of_ble_eq_true rfl) ?_
      refine rn_if_eqB (tgt := 52) dX8_back_28 (by decide) (fun c_28 => ?_) (fun c_28 => ?_)
      · exact absurd (by omega) (of_decide_eq_false c_28)
      · refine rn_iload dX8_back_31 rfl ?_
        refine rn_iconst (v := nI 0) dX8_back_33 (by decide) ?_
        refine rn_iconst (v := nI 2) dX8_back_34 (by decide) ?_
        refine rn_iload_n dX8_back_35 rfl rfl ?_
        refine rn_imul dX8_back_36 ?_
        refine rn_top (pk_mul _ _) ?_
        refine rn_callSq (st := []) dX8_back_37 cf_8_70 (m_isInN _ _ (by omega) (by omega) (by omega)) (by omega) rfl rfl (Nat.le_of_ble_eq_true rfl) ?_
        refine rn_if_eqB (tgt := 52) dX8_back_40 (by decide) (fun c_40 => ?_) (fun c_40 => ?_)
        · exact absurd (by omega) (of_decide_eq_false c_40)
        · refine rn_iload_n dX8_back_43 rfl rfl ?_
          refine rn_iload dX8_back_44 rfl ?_
          refine rn_iadd dX8_back_46 ?_
          refine rn_top (nI_add _ _) ?_
          refine rn_iconst (v := nI 2) dX8_back_47 (by decide) ?_
          refine rn_irem dX8_back_48 (by decide) ?_
          refine rn_top (pk_rem (by omega) (by omega) (by omega)) ?_
          refine rn_if_neN (tgt := 54) dX8_back_49 (by decide) (by omega) (fun c_49 => ?_) (fun c_49 => ?_)
          · refine rn_aload_n dX8_back_54 rfl rfl ?_
            refine rn_bipush (v := nI 18) dX8_back_55 (by decide) ?_
            refine rn_iload_n dX8_back_57 rfl rfl ?_
            refine rn_iload_n dX8_back_58 rfl rfl ?_
            refine rn_callV0 (st := []) dX8_back_59 cf_8_132 (m_plainD hs (g := 18) (by decide)) (by omega) (sk_l hs 44 (by decide)) (sk_k44 hs) rfl rfl (Nat.le_of_ble_eq_true rfl) (fun r1 S1 I1 hq => ?_)
            obtain ⟨rfl, rfl, hD1, hF1⟩ := hq
            refine rn_iconst (v := nI 0) dX8_back_62 (by decide) ?_
            refine rn_istore (ls' := [some (.ref 44), some (.int (nI w)), some (.int (nI h)), some (.int (nI i0)), some (.int (nI j0)), some (.int (nI 0))]) dX8_back_63 (by decide) rfl rfl ?_
            exact L1 I1 hD1 hF1 0 (Nat.zero_le _) I1 (fun _ _ => rfl) (fun x hx => absurd hx (Nat.not_lt_zero _))
          · omega
set_option maxHeartbeats 1000000 in
set_option maxRecDepth 100000 in
theorem c_X8_back_n {S : am_S} {I : am_I} {x y : Int32} (a b : Int32) (hn : ¬ ((1 ≤ x.toInt ∧ x.toInt ≤ 8) ∧ 1 ≤ y.toInt ∧ y.toInt ≤ 8)) : am_Mt 1 Y_X8_back (0, 0) [.ref 44, .int x, .int y, .int a, .int b] S I (am_q (some (.int (-1))) S I) := by
  refine am_mt ⟨by decide +kernel, rfl⟩ (Nat.le_of_ble_eq_true rfl) rfl ?_
  refine rn_iload_n dX8_back_0 rfl rfl ?_
  refine rn_iconst (v := nI 1) dX8_back_1 (by decide) ?_
  refine rn_bipush (v := nI 8) dX8_back_2 (by decide) ?_
  refine rn_callSq (st := []) dX8_back_4 cf_8_70 (c_X8_isIn S I _ _ _) (by omega) rfl rfl (Nat.le_of_ble_eq_true rfl) ?_
  refine rn_if_eqB (tgt := 52) dX8_back_7 (by decide) (fun c_7 => ?_) (fun c_7 => ?_)
  · refine rn_iconst (v := (-1)) dX8_back_52 (by decide) ?_
    refine rn_ireturn dX8_back_53 rfl (vp_nar_int _) ?_
    exact ⟨rfl, rfl, rfl⟩
  · refine rn_iload_n dX8_back_10 rfl rfl ?_
    refine rn_iconst (v := nI 1) dX8_back_11 (by decide) ?_
    refine rn_bipush (v := nI 8) dX8_back_12 (by decide) ?_
    refine rn_callSq (st := []) dX8_back_14 cf_8_70 (c_X8_isIn S I _ _ _) (by omega) rfl rfl (Nat.le_of_ble_eq_true rfl) ?_
    refine rn_if_eqB (tgt := 52) dX8_back_17 (by decide) (fun c_17 => ?_) (fun c_17 => ?_)
    · refine rn_iconst (v := (-1)) dX8_back_52 (by decide) ?_
      refine rn_ireturn dX8_back_53 rfl (vp_nar_int _) ?_
      exact ⟨rfl, rfl, rfl⟩
    · have q1 := of_decide_eq_true c_7
      have q2 := of_decide_eq_true c_17
      rw [z_nI (by decide), z_nI (by decide)] at q1 q2
      exact absurd (by omega) hn
set_option maxHeartbeats 1000000 in
set_option maxRecDepth 100000 in
theorem c_X8_back_a {S : am_S} {I : am_I} {w h : Nat} (w1 : 1 ≤ w) (w8 : w ≤ 8) (h1 : 1 ≤ h) (h8 : h ≤ 8) {a b : Int32} (hn : ¬ ((0 ≤ a.toInt ∧ a.toInt ≤ 2 * w) ∧ 0 ≤ b.toInt ∧ b.toInt ≤ 2 * h)) : am_Mt 1 Y_X8_back (0, 0) [.ref 44, .int (nI w), .int (nI h), .int a, .int b] S I (am_q (some (.int (-1))) S I) := by
  refine am_mt ⟨by decide +kernel, rfl⟩ (Nat.le_of_ble_eq_true rfl) rfl ?_
  refine rn_iload_n dX8_back_0 rfl rfl ?_
  refine rn_iconst (v := nI 1) dX8_back_1 (by decide) ?_
  refine rn_bipush (v := nI 8) dX8_back_2 (by decide) ?_
  refine rn_callSq (st := []) dX8_back_4 cf_8_70 (m_isInN _ _ (by omega) (by omega) (by omega)) (by omega) rfl rfl (Nat.le_of_ble_eq_true rfl) ?_
  refine rn_if_eqB (tgt := 52) dX8_back_7 (by decide) (fun c_7 => ?_) (fun c_7 => ?_)
  · exact absurd (by omega) (of_decide_eq_false c_7)
  · refine rn_iload_n dX8_back_10 rfl rfl ?_
    refine rn_iconst (v := nI 1) dX8_back_11 (by decide) ?_
    refine rn_bipush (v := nI 8) dX8_back_12 (by decide) ?_
    refine rn_callSq (st := []) dX8_back_14 cf_8_70 (m_isInN _ _ (by omega) (by omega) (by omega)) (by omega) rfl rfl (Nat.le_of_ble_eq_true rfl) ?_
    refine rn_if_eqB (tgt := 52) dX8_back_17 (by decide) (fun c_17 => ?_) (fun c_17 => ?_)
    · exact absurd (by omega) (of_decide_eq_false c_17)
    · refine rn_iload_n dX8_back_20 rfl rfl ?_
      refine rn_iconst (v := nI 0) dX8_back_21 (by decide) ?_
      refine rn_iconst (v := nI 2) dX8_back_22 (by decide) ?_
      refine rn_iload_n dX8_back_23 rfl rfl ?_
      refine rn_imul dX8_back_24 ?_
      refine rn_top (pk_mul _ _) ?_
      refine rn_callSq (st := []) dX8_back_25 cf_8_70 (c_X8_isIn S I _ _ _) (by omega) rfl rfl (Nat.le_of_ble_eq_true rfl) ?_
      refine rn_if_eqB (tgt := 52) dX8_back_28 (by decide) (fun c_28 => ?_) (fun c_28 => ?_)
      · refine rn_iconst (v := (-1)) dX8_back_52 (by decide) ?_
        refine rn_ireturn dX8_back_53 rfl (vp_nar_int _) ?_
        exact ⟨rfl, rfl, rfl⟩
      · refine rn_iload dX8_back_31 rfl ?_
        refine rn_iconst (v := nI 0) dX8_back_33 (by decide) ?_
        refine rn_iconst (v := nI 2) dX8_back_34 (by decide) ?_
        refine rn_iload_n dX8_back_35 rfl rfl ?_
        refine rn_imul dX8_back_36 ?_
        refine rn_top (pk_mul _ _) ?_
        refine rn_callSq (st := []) dX8_back_37 cf_8_70 (c_X8_isIn S I _ _ _) (by omega) rfl rfl (Nat.le_of_ble_eq_true rfl) ?_
        refine rn_if_eqB (tgt := 52) dX8_back_40 (by decide) (fun c_40 => ?_) (fun c_40 => ?_)
        · refine rn_iconst (v := (-1)) dX8_back_52 (by decide) ?_
          refine rn_ireturn dX8_back_53 rfl (vp_nar_int _) ?_
          exact ⟨rfl, rfl, rfl⟩
        · have q1 := of_decide_eq_true c_28
          have q2 := of_decide_eq_true c_40
          rw [z_nI (by decide), z_nI (by omega)] at q1 q2
          exact absurd (by omega) hn
set_option maxHeartbeats 1000000 in
set_option maxRecDepth 100000 in
theorem c_X8_back_e {S : am_S} {I : am_I} {w h i j : Nat} (w1 : 1 ≤ w) (w8 : w ≤ 8) (h1 : 1 ≤ h) (h8 : h ≤ 8) (hi : i ≤ 2 * w) (hj : j ≤ 2 * h) (he : (i + j) % 2 = 0) : am_Mt 1 Y_X8_back (0, 0) [.ref 44, .int (nI w), .int (nI h), .int (nI i), .int (nI j)] S I (am_q (some (.int (-1))) S I) := by
  refine am_mt ⟨by decide +kernel, rfl⟩ (Nat.le_of_ble_eq_true rfl) rfl ?_
  refine rn_iload_n dX8_back_0 rfl rfl ?_
  refine rn_iconst (v := nI 1) dX8_back_1 (by decide) ?_
  refine rn_bipush (v := nI 8) dX8_back_2 (by decide) ?_
  refine rn_callSq (st := []) dX8_back_4 cf_8_70 (m_isInN _ _ (by omega) (by omega) (by omega)) (by omega) rfl rfl (Nat.le_of_ble_eq_true rfl) ?_
  refine rn_if_eqB (tgt := 52) dX8_back_7 (by decide) (fun c_7 => ?_) (fun c_7 => ?_)
  · exact absurd (by omega) (of_decide_eq_false c_7)
  · refine rn_iload_n dX8_back_10 rfl rfl ?_
    refine rn_iconst (v := nI 1) dX8_back_11 (by decide) ?_
    refine rn_bipush (v := nI 8) dX8_back_12 (by decide) ?_
    refine rn_callSq (st := []) dX8_back_14 cf_8_70 (m_isInN _ _ (by omega) (by omega) (by omega)) (by omega) rfl rfl (Nat.le_of_ble_eq_true rfl) ?_
    refine rn_if_eqB (tgt := 52) dX8_back_17 (by decide) (fun c_17 => ?_) (fun c_17 => ?_)
    · exact absurd (by omega) (of_decide_eq_false c_17)
    · refine rn_iload_n dX8_back_20 rfl rfl ?_
      refine rn_iconst (v := nI 0) dX8_back_21 (by decide) ?_
      refine rn_iconst (v := nI 2) dX8_back_22 (by decide) ?_
      refine rn_iload_n dX8_back_23 rfl rfl ?_
      refine rn_imul dX8_back_24 ?_
      refine rn_top (pk_mul _ _) ?_
      refine rn_callSq (st := []) dX8_back_25 cf_8_70 (m_isInN _ _ (by omega) (by omega) (by omega)) (by omega) rfl rfl (Nat.le_of_ble_eq_true rfl) ?_
      refine rn_if_eqB (tgt := 52) dX8_back_28 (by decide) (fun c_28 => ?_) (fun c_28 => ?_)
      · exact absurd (by omega) (of_decide_eq_false c_28)
      · refine rn_iload dX8_back_31 rfl ?_
        refine rn_iconst (v := nI 0) dX8_back_33 (by decide) ?_
        refine rn_iconst (v := nI 2) dX8_back_34 (by decide) ?_
        refine rn_iload_n dX8_back_35 rfl rfl ?_
        refine rn_imul dX8_back_36 ?_
        refine rn_top (pk_mul _ _) ?_
        refine rn_callSq (st := []) dX8_back_37 cf_8_70 (m_isInN _ _ (by omega) (by omega) (by omega)) (by omega) rfl rfl (Nat.le_of_ble_eq_true rfl) ?_
        refine rn_if_eqB (tgt := 52) dX8_back_40 (by decide) (fun c_40 => ?_) (fun c_40 => ?_)
        · exact absurd (by omega) (of_decide_eq_false c_40)
        · refine rn_iload_n dX8_back_43 rfl rfl ?_
          refine rn_iload dX8_back_44 rfl ?_
          refine rn_iadd dX8_back_46 ?_
          refine rn_top (nI_add _ _) ?_
          refine rn_iconst (v := nI 2) dX8_back_47 (by decide) ?_
          refine rn_irem dX8_back_48 (by decide) ?_
          refine rn_top (pk_rem (by omega) (by omega) (by omega)) ?_
          refine rn_if_neN (tgt := 54) dX8_back_49 (by decide) (by omega) (fun c_49 => ?_) (fun c_49 => ?_)
          · omega
          · refine rn_iconst (v := (-1)) dX8_back_52 (by decide) ?_
            refine rn_ireturn dX8_back_53 rfl (vp_nar_int _) ?_
            exact ⟨rfl, rfl, rfl⟩
theorem c_X8_back_p {S : am_S} {I : am_I} {w h : Nat} (w1 : 1 ≤ w) (w8 : w ≤ 8) (h1 : 1 ≤ h) (h8 : h ≤ 8) {a b : Int32} (hn : pPoint w h a b = false) : am_Mt 1 Y_X8_back (0, 0) [.ref 44, .int (nI w), .int (nI h), .int a, .int b] S I (am_q (some (.int (-1))) S I) := by
  have hn := of_decide_eq_false hn
  by_cases hr : (0 ≤ a.toInt ∧ a.toInt ≤ 2 * w) ∧ 0 ≤ b.toInt ∧ b.toInt ≤ 2 * h
  · have ea := z_nat hr.1.1
    have eb := z_nat hr.2.1
    rw [ea, eb]
    exact c_X8_back_e w1 w8 h1 h8 (by omega) (by omega) (by omega)
  · exact c_X8_back_a w1 w8 h1 h8 hr
