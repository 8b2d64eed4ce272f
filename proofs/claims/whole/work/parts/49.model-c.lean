def grD (I : am_I) (g : Nat) (D : Dw) : Prop := isGr I g D.1 D.2.1 D.2.2
def GF (I I' : am_I) : Prop := gfr (fun x => x = 18 ∨ x = 19) I I'
theorem gfr.rf {L : Nat → Prop} {I : am_I} : gfr L I I := ⟨fun _ _ _ _ => rfl, fun _ _ => ⟨rfl, rfl, fun _ _ => rfl⟩⟩
theorem GF.rf {I : am_I} : GF I I := gfr.rf
theorem GF.trans {I I1 I2 : am_I} (h : GF I I1) (g : GF I1 I2) : GF I I2 := (gfr.trans h g).mono (fun _ q => q.elim id id)
theorem GF.s18 {I I1 I2 : am_I} (h : GF I I1) (g : gfr (fun x => x = 18) I1 I2) : GF I I2 := (gfr.trans h g).mono (fun _ q => q.elim id Or.inl)
theorem GF.s19 {I I1 I2 : am_I} (h : GF I I1) (g : gfr (fun x => x = 19) I1 I2) : GF I I2 := (gfr.trans h g).mono (fun _ q => q.elim id Or.inr)
theorem grD.kept {L : Nat → Prop} {I I' : am_I} {g : Nat} {D : Dw} (h : grD I g D) (hf : gfr L I I') (hg : ¬ L g) : grD I' g D := isGr.kept hf hg h
section MD
variable {S : am_S} {I : am_I} {f g : Nat} {D E : Dw}
theorem m_copyD (hs : sk S) (hf : f < 20) (hg : g < 20) (hfg : f ≠ g) (hO : okD D) (hD : grD I f D) : am_Mt 0 Y_X8_copy (0, 0) [.ref 44, .int (nI f), .int (nI g)] S I (fun r S' I' => r = none ∧ S' = S ∧ grD I' g D ∧ gfr (fun x => x = g) I I') := by
  refine (c_X8_copy hs hf hg hfg hD.1 hD.2.1).mono (fun r S' I' h => ?_)
  obtain ⟨e1, e2, e3⟩ := h
  have q := isGr_cpy (g := g) hO.2.2 hD
  exact ⟨e1, e2, by rw [e3]; exact q.1, by rw [e3]; exact q.2⟩
theorem m_plainD {w h : Nat} (hs : sk S) (hg : g < 20) : am_Mt 0 Y_X8_plain (0, 0) [.ref 44, .int (nI g), .int (nI w), .int (nI h)] S I (fun r S' I' => r = none ∧ S' = S ∧ grD I' g (w, h, zM) ∧ gfr (fun x => x = g) I I') := by
  refine (c_X8_plain hs hg).mono (fun r S' I' h => ?_)
  obtain ⟨e1, e2, e3⟩ := h
  have q := isGr_pln I g w h
  exact ⟨e1, e2, by rw [e3]; exact q.1, by rw [e3]; exact q.2⟩
theorem m_layD {i0 j0 : Nat} (hs : sk S) (hf : f < 20) (hg : g < 20) (hfg : f ≠ g) (hO : okD D) (w8 : E.1 ≤ 8) (h8 : E.2.1 ≤ 8) (hri : i0 % 2 = 0) (hdj : j0 % 2 = 0) (hfw : 2 * D.1 + i0 ≤ 2 * E.1) (hfh : 2 * D.2.1 + j0 ≤ 2 * E.2.1) (hD : grD I f D) (hE : grD I g E) : am_Mt 1 Y_X8_lay (0, 0) [.ref 44, .int (nI f), .int (nI g), .int (nI i0), .int (nI j0)] S I (fun r S' I' => r = none ∧ S' = S ∧ grD I' g (E.1, E.2.1, layM i0 j0 D.1 D.2.1 D.2.2 E.2.2) ∧ gfr (fun x => x = g) I I') := by
  refine (c_X8_lay hs hf hg hD.1 hD.2.1 (by omega) (by omega)).mono (fun r S' I' h => ?_)
  obtain ⟨e1, e2, e3⟩ := h
  have q := isGr_lay hfg w8 h8 hri hdj hfw hfh hO.2.2 hE hD
  exact ⟨e1, e2, by rw [e3]; exact q.1, by rw [e3]; exact q.2⟩
theorem m_turnD (hs : sk S) (hg : g < 19) (hO : okD D) (hD : grD I g D) : am_Mt 1 Y_X8_turn (0, 0) [.ref 44, .int (nI g)] S I (fun r S' I' => r = none ∧ S' = S ∧ grD I' g (oTurn D) ∧ gfr (fun x => x = g ∨ x = 19) I I') := by
  refine (c_X8_turn hs hg hD.1 hD.2.1 hO.1.2 hO.2.1.2).mono (fun r S' I' h => ?_)
  obtain ⟨e1, e2, e3⟩ := h
  have q := isGr_turn hg hO.1.2 hO.2.1.2 hO.2.2 hD
  exact ⟨e1, e2, by rw [e3]; exact q.1, by rw [e3]; exact q.2⟩
theorem m_flipD (hs : sk S) (hg : g < 19) (hO : okD D) (hD : grD I g D) : am_Mt 1 Y_X8_flip (0, 0) [.ref 44, .int (nI g)] S I (fun r S' I' => r = none ∧ S' = S ∧ grD I' g (oFlip D) ∧ gfr (fun x => x = g ∨ x = 19) I I') := by
  refine (c_X8_flip hs hg hD.1 hD.2.1 hO.1.2 hO.2.1.2).mono (fun r S' I' h => ?_)
  obtain ⟨e1, e2, e3⟩ := h
  have q := isGr_flip hg hO.1.2 hO.2.1.2 hO.2.2 hD
  exact ⟨e1, e2, by rw [e3]; exact q.1, by rw [e3]; exact q.2⟩
end MD
/-- what a word makes of the drawing in hand -/
def OX (S : am_S) (I : am_I) (X : Option Dw) (r : Option Value) (S' : am_S) (I' : am_I) : Prop := S' = S ∧ GF I I' ∧ ((X = none ∧ r = some (.int (nI 0))) ∨ ∃ D', X = some D' ∧ r = some (.int (nI 1)) ∧ grD I' 18 D')
set_option maxHeartbeats 1000000 in
set_option maxRecDepth 100000 in
theorem c_X8_isRow {S : am_S} (hs : sk S) {I : am_I} {D : Dw} (hO : okD D) (hD : grD I 18 D) {n : Nat} (n1 : 1 ≤ n) (n8 : n ≤ 8) : am_Mt 2 Y_X8_isRow (0, 0) [.ref 44, .int (nI n)] S I (OX S I (oRow n D)) := by
  obtain ⟨⟨w1, w8⟩, ⟨h1, h8⟩, hM⟩ := id hO
  have hmn : D.1 * n ≤ 64 := Nat.le_trans (Nat.mul_le_mul w8 n8) (by decide)
  have LP : D.1 * n ≤ 8 → ∀ k, k ≤ n → ∀ I3 : am_I, GF I I3 → grD I3 19 D → grD I3 18 (D.1 * n, D.2.1, rwM D.1 D.2.1 D.2.2 k) → am_Rn 2 Y_X8_isRow (0, 0) 48 [some (.ref 44), some (.int (nI n)), some (.int (nI k))] [] S I3 (OX S I (oRow n D)) := by
    intro hwn
    refine am_loop n (fun k hk ih => ?_)
    intro I3 hG hC hH
    refine rn_iload_n dX8_isRow_48 rfl rfl ?_
    refine rn_iload_n dX8_isRow_49 rfl rfl ?_
    refine rn_icmp_geN (tgt := 79) dX8_isRow_50 (by decide) (by omega) (by omega) (fun c_50 => ?_) (fun c_50 => ?_)
    · refine rn_iconst (v := nI 1) dX8_isRow_79 (by decide) ?_
      refine rn_ireturn dX8_isRow_80 rfl (by decide) ?_
      obtain rfl : k = n := by omega
      exact ⟨rfl, hG, Or.inr ⟨_, if_pos hwn, rfl, hH⟩⟩
    · have hk1 : D.1 * (k + 1) ≤ D.1 * n := Nat.mul_le_mul_left _ c_50
      have hk2 : D.1 * (k + 1) = D.1 * k + D.1 := Nat.mul_succ _ _
      have hk3 : 2 * k * D.1 = 2 * (D.1 * k) := by rw [Nat.mul_assoc, Nat.mul_comm k D.1]
      refine rn_aload_n dX8_isRow_53 rfl rfl ?_
      refine rn_bipush (v := nI 19) dX8_isRow_54 (by decide) ?_
      refine rn_bipush (v := nI 18) dX8_isRow_56 (by decide) ?_
      refine rn_iconst (v := nI 2) dX8_isRow_58 (by decide) ?_
      refine rn_iload_n dX8_isRow_59 rfl rfl ?_
      refine rn_imul dX8_isRow_60 ?_
      refine rn_top (pk_mul _ _) ?_
      refine rn_aload_n dX8_isRow_61 rfl rfl ?_
      refine rn_getR (r := 45) dX8_isRow_62 fd_8_7 (sk_l hs 44 (by decide)) (sk_k44 hs) rfl (sk_r44_0 hs) ?_
      refine rn_bipush (v := nI 19) dX8_isRow_65 (by decide) ?_
      refine rn_ialoadN dX8_isRow_67 (sk_l hs 45 (by decide)) (sk_k45 hs) (by omega) (by omega) ?_
      refine rn_top (y := nI D.1) (hC.1) ?_
      refine rn_imul dX8_isRow_68 ?_
      refine rn_top (pk_mul _ _) ?_
      refine rn_iconst (v := nI 0) dX8_isRow_69 (by decide) ?_
      refine rn_callV0 (st := []) dX8_isRow_70 cf_8_202 (m_layD (D := D) (E := (D.1 * n, D.2.1, rwM D.1 D.2.1 D.2.2 k)) hs (f := 19) (g := 18) (by decide) (by decide) (by decide) hO hwn h8 (by omega) (by decide) (by show 2 * D.1 + 2 * k * D.1 ≤ 2 * (D.1 * n); omega) (Nat.le_refl _) hC hH) (by omega) (sk_l hs 44 (by decide)) (sk_k44 hs) rfl rfl (Nat.le_of_ble_eq_true rfl) (fun r1 S1 I4 hq => ?_)
      obtain ⟨rfl, rfl, hD4, hF4⟩ := hq
      refine rn_iinc (v := nI (k + 1)) (ls' := [some (.ref 44), some (.int (nI n)), some (.int (nI (k + 1)))]) dX8_isRow_73 rfl (nI_add _ 1) (by decide) rfl rfl ?_
      refine rn_goto (tgt := 48) dX8_isRow_76 (by decide) ?_
      exact ih c_50 I4 (hG.s18 hF4) (hC.kept hF4 (by decide)) hD4
  refine am_mt ⟨by decide +kernel, rfl⟩ (Nat.le_of_ble_eq_true rfl) rfl ?_
  refine rn_aload_n dX8_isRow_0 rfl rfl ?_
  refine rn_getR (r := 45) dX8_isRow_1 fd_8_7 (sk_l hs 44 (by decide)) (sk_k44 hs) rfl (sk_r44_0 hs) ?_
  refine rn_bipush (v := nI 18) dX8_isRow_4 (by decide) ?_
  refine rn_ialoadN dX8_isRow_6 (sk_l hs 45 (by decide)) (sk_k45 hs) (by omega) (by omega) ?_
  refine rn_top (y := nI D.1) (hD.1) ?_
  refine rn_iload_n dX8_isRow_7 rfl rfl ?_
  refine rn_imul dX8_isRow_8 ?_
  refine rn_top (pk_mul _ _) ?_
  refine rn_bipush (v := nI 8) dX8_isRow_9 (by decide) ?_
  refine rn_icmp_leN (tgt := 16) dX8_isRow_11 (by decide) (by omega) (by omega) (fun c_11 => ?_) (fun c_11 => ?_)
  · refine rn_aload_n dX8_isRow_16 rfl rfl ?_
    refine rn_bipush (v := nI 18) dX8_isRow_17 (by decide) ?_
    refine rn_bipush (v := nI 19) dX8_isRow_19 (by decide) ?_
    refine rn_callV0 (st := []) dX8_isRow_21 cf_8_128 (m_copyD hs (f := 18) (g := 19) (by decide) (by decide) (by decide) hO hD) (by omega) (sk_l hs 44 (by decide)) (sk_k44 hs) rfl rfl (Nat.le_of_ble_eq_true rfl) (fun r1 S1 I1 hq => ?_)
    obtain ⟨rfl, rfl, hD1, hF1⟩ := hq
    refine rn_aload_n dX8_isRow_24 rfl rfl ?_
    refine rn_bipush (v := nI 18) dX8_isRow_25 (by decide) ?_
    refine rn_aload_n dX8_isRow_27 rfl rfl ?_
    refine rn_getR (r := 45) dX8_isRow_28 fd_8_7 (sk_l hs 44 (by decide)) (sk_k44 hs) rfl (sk_r44_0 hs) ?_
    refine rn_bipush (v := nI 19) dX8_isRow_31 (by decide) ?_
    refine rn_ialoadN dX8_isRow_33 (sk_l hs 45 (by decide)) (sk_k45 hs) (by omega) (by omega) ?_
    refine rn_top (y := nI D.1) (hD1.1) ?_
    refine rn_iload_n dX8_isRow_34 rfl rfl ?_
    refine rn_imul dX8_isRow_35 ?_
    refine rn_top (pk_mul _ _) ?_
    refine rn_aload_n dX8_isRow_36 rfl rfl ?_
    refine rn_getR (r := 46) dX8_isRow_37 fd_8_13 (sk_l hs 44 (by decide)) (sk_k44 hs) rfl (sk_r44_1 hs) ?_
    refine rn_bipush (v := nI 19) dX8_isRow_40 (by decide) ?_
    refine rn_ialoadN dX8_isRow_42 (sk_l hs 46 (by decide)) (sk_k46 hs) (by omega) (by omega) ?_
    refine rn_top (y := nI D.2.1) (hD1.2.1) ?_
    refine rn_callV0 (st := []) dX8_isRow_43 cf_8_132 (m_plainD hs (g := 18) (by decide)) (by omega) (sk_l hs 44 (by decide)) (sk_k44 hs) rfl rfl (Nat.le_of_ble_eq_true rfl) (fun r1 S1 I2 hq => ?_)
    obtain ⟨rfl, rfl, hD2, hF2⟩ := hq
    refine rn_iconst (v := nI 0) dX8_isRow_46 (by decide) ?_
    refine rn_istore_n (ls' := [some (.ref 44), some (.int (nI n)), some (.int (nI 0))]) dX8_isRow_47 rfl (by decide) rfl rfl ?_
    exact LP c_11 0 (Nat.zero_le _) I2 ((GF.rf.s19 hF1).s18 hF2) (hD1.kept hF2 (by decide)) hD2
  · refine rn_iconst (v := nI 0) dX8_isRow_14 (by decide) ?_
    refine rn_ireturn dX8_isRow_15 rfl (by decide) ?_
    exact ⟨rfl, GF.rf, Or.inl ⟨if_neg (by omega), rfl⟩⟩
set_option maxHeartbeats 1000000 in
set_option maxRecDepth 100000 in
theorem c_X8_isPut_9 {S : am_S} (hs : sk S) {I : am_I} {D E : Dw} {u : Nat} (hu : u < 8) (hO : okD D) (hE : okD E) (hA : grD I (9 + u) D) (hH : grD I 18 E) : am_Mt 2 Y_X8_isPut (0, 0) [.ref 44, .int (nI u), .int (nI 9)] S I (OX S I (oBes D E)) := by
  obtain ⟨⟨w1, w8⟩, ⟨h1, h8⟩, hM⟩ := id hO
  obtain ⟨⟨v1, v8⟩, ⟨g1, g8⟩, hN⟩ := id hE
  refine am_mt ⟨by decide +kernel, rfl⟩ (Nat.le_of_ble_eq_true rfl) rfl ?_
  refine rn_bipush (v := nI 9) dX8_isPut_0 (by decide) ?_
  refine rn_iload_n dX8_isPut_2 rfl rfl ?_
  refine rn_iadd dX8_isPut_3 ?_
  refine rn_top (nI_add _ _) ?_
  refine rn_istore_n (ls' := [some (.ref 44), some (.int (nI u)), some (.int (nI 9)), some (.int (nI (9 + u))), none, none]) dX8_isPut_4 rfl (by decide) rfl rfl ?_
  refine rn_aload_n dX8_isPut_5 rfl rfl ?_
  refine rn_getR (r := 46) dX8_isPut_6 fd_8_13 (sk_l hs 44 (by decide)) (sk_k44 hs) rfl (sk_r44_1 hs) ?_
  refine rn_iload_n dX8_isPut_9 rfl rfl ?_
  refine rn_ialoadN dX8_isPut_10 (sk_l hs 46 (by decide)) (sk_k46 hs) (by omega) (by omega) ?_
  refine rn_top (y := nI D.2.1) (hA.2.1) ?_
  refine rn_aload_n dX8_isPut_11 rfl rfl ?_
  refine rn_getR (r := 46) dX8_isPut_12 fd_8_13 (sk_l hs 44 (by decide)) (sk_k44 hs) rfl (sk_r44_1 hs) ?_
  refine rn_bipush (v := nI 18) dX8_isPut_15 (by decide) ?_
  refine rn_ialoadN dX8_isPut_17 (sk_l hs 46 (by decide)) (sk_k46 hs) (by omega) (by omega) ?_
  refine rn_top (y := nI E.2.1) (hH.2.1) ?_
  refine rn_icmp_neN (tgt := 25) dX8_isPut_18 (by decide) (by omega) (by omega) (fun c_18 => ?_) (fun c_18 => ?_)
  · refine rn_iconst (v := nI 0) dX8_isPut_25 (by decide) ?_
    refine rn_istore (ls' := [some (.ref 44), some (.int (nI u)), some (.int (nI 9)), some (.int (nI (9 + u))), some (.int (nI 0)), none]) dX8_isPut_26 (by decide) rfl rfl ?_
    refine rn_aload_n dX8_isPut_28 rfl rfl ?_
    refine rn_getR (r := 45) dX8_isPut_29 fd_8_7 (sk_l hs 44 (by decide)) (sk_k44 hs) rfl (sk_r44_0 hs) ?_
    refine rn_iload_n dX8_isPut_32 rfl rfl ?_
    refine rn_ialoadN dX8_isPut_33 (sk_l hs 45 (by decide)) (sk_k45 hs) (by omega) (by omega) ?_
    refine rn_top (y := nI D.1) (hA.1) ?_
    refine rn_aload_n dX8_isPut_34 rfl rfl ?_
    refine rn_getR (r := 45) dX8_isPut_35 fd_8_7 (sk_l hs 44 (by decide)) (sk_k44 hs) rfl (sk_r44_0 hs) ?_
    refine rn_bipush (v := nI 18) dX8_isPut_38 (by decide) ?_
    refine rn_ialoadN dX8_isPut_40 (sk_l hs 45 (by decide)) (sk_k45 hs) (by omega) (by omega) ?_
    refine rn_top (y := nI E.1) (hH.1) ?_
    refine rn_icmp_neN (tgt := 48) dX8_isPut_41 (by decide) (by omega) (by omega) (fun c_41 => ?_) (fun c_41 => ?_)
    · refine rn_iconst (v := nI 0) dX8_isPut_48 (by decide) ?_
      refine rn_istore (ls' := [some (.ref 44), some (.int (nI u)), some (.int (nI 9)), some (.int (nI (9 + u))), some (.int (nI 0)), some (.int (nI 0))]) dX8_isPut_49 (by decide) rfl rfl ?_
      refine rn_iload_n dX8_isPut_51 rfl rfl ?_
      refine rn_bipush (v := nI 9) dX8_isPut_52 (by decide) ?_
      refine rn_icmp_neN (tgt := 84) dX8_isPut_54 (by decide) (by omega) (by omega) (fun c_54 => ?_) (fun c_54 => ?_)
      · exact absurd c_54 (by decide)
      · refine rn_iload dX8_isPut_57 rfl ?_
        refine rn_if_eqN (tgt := 127) dX8_isPut_59 (by decide) (by omega) (fun c_59 => ?_) (fun c_59 => ?_)
        · refine rn_iconst (v := nI 0) dX8_isPut_127 (by decide) ?_
          refine rn_ireturn dX8_isPut_128 rfl (by decide) ?_
          exact ⟨rfl, GF.rf, Or.inl ⟨if_neg (by omega), rfl⟩⟩
        · exact absurd c_59 (by decide)
    · refine rn_iconst (v := nI 1) dX8_isPut_44 (by decide) ?_
      refine rn_goto (tgt := 49) dX8_isPut_45 (by decide) ?_
      refine rn_istore (ls' := [some (.ref 44), some (.int (nI u)), some (.int (nI 9)), some (.int (nI (9 + u))), some (.int (nI 0)), some (.int (nI 1))]) dX8_isPut_49 (by decide) rfl rfl ?_
      refine rn_iload_n dX8_isPut_51 rfl rfl ?_
      refine rn_bipush (v := nI 9) dX8_isPut_52 (by decide) ?_
      refine rn_icmp_neN (tgt := 84) dX8_isPut_54 (by decide) (by omega) (by omega) (fun c_54 => ?_) (fun c_54 => ?_)
      · exact absurd c_54 (by decide)
      · refine rn_iload dX8_isPut_57 rfl ?_
        refine rn_if_eqN (tgt := 127) dX8_isPut_59 (by decide) (by omega) (fun c_59 => ?_) (fun c_59 => ?_)
        · refine rn_iconst (v := nI 0) dX8_isPut_127 (by decide) ?_
          refine rn_ireturn dX8_isPut_128 rfl (by decide) ?_
          exact ⟨rfl, GF.rf, Or.inl ⟨if_neg (by omega), rfl⟩⟩
        · exact absurd c_59 (by decide)
  · refine rn_iconst (v := nI 1) dX8_isPut_21 (by decide) ?_
    refine rn_goto (tgt := 26) dX8_isPut_22 (by decide) ?_
    refine rn_istore (ls' := [some (.ref 44), some (.int (nI u)), some (.int (nI 9)), some (.int (nI (9 + u))), some (.int (nI 1)), none]) dX8_isPut_26 (by decide) rfl rfl ?_
    refine rn_aload_n dX8_isPut_28 rfl rfl ?_
    refine rn_getR (r := 45) dX8_isPut_29 fd_8_7 (sk_l hs 44 (by decide)) (sk_k44 hs) rfl (sk_r44_0 hs) ?_
    refine rn_iload_n dX8_isPut_32 rfl rfl ?_
    refine rn_ialoadN dX8_isPut_33 (sk_l hs 45 (by decide)) (sk_k45 hs) (by omega) (by omega) ?_
    refine rn_top (y := nI D.1) (hA.1) ?_
    refine rn_aload_n dX8_isPut_34 rfl rfl ?_
    refine rn_getR (r := 45) dX8_isPut_35 fd_8_7 (sk_l hs 44 (by decide)) (sk_k44 hs) rfl (sk_r44_0 hs) ?_
    refine rn_bipush (v := nI 18) dX8_isPut_38 (by decide) ?_
    refine rn_ialoadN dX8_isPut_40 (sk_l hs 45 (by decide)) (sk_k45 hs) (by omega) (by omega) ?_
    refine rn_top (y := nI E.1) (hH.1) ?_
    refine rn_icmp_neN (tgt := 48) dX8_isPut_41 (by decide) (by omega) (by omega) (fun c_41 => ?_) (fun c_41 => ?_)
    · refine rn_iconst (v := nI 0) dX8_isPut_48 (by decide) ?_
      refine rn_istore (ls' := [some (.ref 44), some (.int (nI u)), some (.int (nI 9)), some (.int (nI (9 + u))), some (.int (nI 1)), some (.int (nI 0))]) dX8_isPut_49 (by decide) rfl rfl ?_
      refine rn_iload_n dX8_isPut_51 rfl rfl ?_
      refine rn_bipush (v := nI 9) dX8_isPut_52 (by decide) ?_
      refine rn_icmp_neN (tgt := 84) dX8_isPut_54 (by decide) (by omega) (by omega) (fun c_54 => ?_) (fun c_54 => ?_)
      · exact absurd c_54 (by decide)
      · refine rn_iload dX8_isPut_57 rfl ?_
        refine rn_if_eqN (tgt := 127) dX8_isPut_59 (by decide) (by omega) (fun c_59 => ?_) (fun c_59 => ?_)
        · exact absurd c_59 (by decide)
        · refine rn_aload_n dX8_isPut_62 rfl rfl ?_
          refine rn_getR (r := 45) dX8_isPut_63 fd_8_7 (sk_l hs 44 (by decide)) (sk_k44 hs) rfl (sk_r44_0 hs) ?_
          refine rn_iload_n dX8_isPut_66 rfl rfl ?_
          refine rn_ialoadN dX8_isPut_67 (sk_l hs 45 (by decide)) (sk_k45 hs) (by omega) (by omega) ?_
          refine rn_top (y := nI D.1) (hA.1) ?_
          refine rn_aload_n dX8_isPut_68 rfl rfl ?_
          refine rn_getR (r := 45) dX8_isPut_69 fd_8_7 (sk_l hs 44 (by decide)) (sk_k44 hs) rfl (sk_r44_0 hs) ?_
          refine rn_bipush (v := nI 18) dX8_isPut_72 (by decide) ?_
          refine rn_ialoadN dX8_isPut_74 (sk_l hs 45 (by decide)) (sk_k45 hs) (by omega) (by omega) ?_
          refine rn_top (y := nI E.1) (hH.1) ?_
          refine rn_iadd dX8_isPut_75 ?_
          refine rn_top (nI_add _ _) ?_
          refine rn_bipush (v := nI 8) dX8_isPut_76 (by decide) ?_
          refine rn_icmp_leN (tgt := 129) dX8_isPut_78 (by decide) (by omega) (by omega) (fun c_78 => ?_) (fun c_78 => ?_)
          · refine rn_aload_n dX8_isPut_129 rfl rfl ?_
            refine rn_bipush (v := nI 18) dX8_isPut_130 (by decide) ?_
            refine rn_bipush (v := nI 19) dX8_isPut_132 (by decide) ?_
            refine rn_callV0 (st := []) dX8_isPut_134 cf_8_128 (m_copyD hs (f := 18) (g := 19) (by decide) (by decide) (by decide) hE hH) (by omega) (sk_l hs 44 (by decide)) (sk_k44 hs) rfl rfl (Nat.le_of_ble_eq_true rfl) (fun r1 S1 I1 hq => ?_)
            obtain ⟨rfl, rfl, hC1, hF1⟩ := hq
            have hA1 := hA.kept hF1 (by omega)
            refine rn_aload_n dX8_isPut_137 rfl rfl ?_
            refine rn_bipush (v := nI 18) dX8_isPut_138 (by decide) ?_
            refine rn_iload_n dX8_isPut_140 rfl rfl ?_
            refine rn_bipush (v := nI 9) dX8_isPut_141 (by decide) ?_
            refine rn_icmp_neN (tgt := 163) dX8_isPut_143 (by decide) (by omega) (by omega) (fun c_143 => ?_) (fun c_143 => ?_)
            · exact absurd c_143 (by decide)
            · refine rn_aload_n dX8_isPut_146 rfl rfl ?_
              refine rn_getR (r := 45) dX8_isPut_147 fd_8_7 (sk_l hs 44 (by decide)) (sk_k44 hs) rfl (sk_r44_0 hs) ?_
              refine rn_iload_n dX8_isPut_150 rfl rfl ?_
              refine rn_ialoadN dX8_isPut_151 (sk_l hs 45 (by decide)) (sk_k45 hs) (by omega) (by omega) ?_
              refine rn_top (y := nI D.1) (hA1.1) ?_
              refine rn_aload_n dX8_isPut_152 rfl rfl ?_
              refine rn_getR (r := 45) dX8_isPut_153 fd_8_7 (sk_l hs 44 (by decide)) (sk_k44 hs) rfl (sk_r44_0 hs) ?_
              refine rn_bipush (v := nI 19) dX8_isPut_156 (by decide) ?_
              refine rn_ialoadN dX8_isPut_158 (sk_l hs 45 (by decide)) (sk_k45 hs) (by omega) (by omega) ?_
              refine rn_top (y := nI E.1) (hC1.1) ?_
              refine rn_iadd dX8_isPut_159 ?_
              refine rn_top (nI_add _ _) ?_
              refine rn_goto (tgt := 169) dX8_isPut_160 (by decide) ?_
              refine rn_iload_n dX8_isPut_169 rfl rfl ?_
              refine rn_bipush (v := nI 10) dX8_isPut_170 (by decide) ?_
              refine rn_icmp_neN (tgt := 192) dX8_isPut_172 (by decide) (by omega) (by omega) (fun c_172 => ?_) (fun c_172 => ?_)
              · refine rn_aload_n dX8_isPut_192 rfl rfl ?_
                refine rn_getR (r := 46) dX8_isPut_193 fd_8_13 (sk_l hs 44 (by decide)) (sk_k44 hs) rfl (sk_r44_1 hs) ?_
                refine rn_iload_n dX8_isPut_196 rfl rfl ?_
                refine rn_ialoadN dX8_isPut_197 (sk_l hs 46 (by decide)) (sk_k46 hs) (by omega) (by omega) ?_
                refine rn_top (y := nI D.2.1) (hA1.2.1) ?_
                refine rn_callV0 (st := []) dX8_isPut_198 cf_8_132 (m_plainD hs (g := 18) (w := D.1 + E.1) (h := D.2.1) (by decide)) (by omega) (sk_l hs 44 (by decide)) (sk_k44 hs) rfl rfl (Nat.le_of_ble_eq_true rfl) (fun r1 S1 I2 hq => ?_)
                obtain ⟨rfl, rfl, hD2, hF2⟩ := hq
                have hA2 := hA1.kept hF2 (by omega)
                have hC2 := hC1.kept hF2 (by decide)
                refine rn_aload_n dX8_isPut_201 rfl rfl ?_
                refine rn_iload_n dX8_isPut_202 rfl rfl ?_
                refine rn_bipush (v := nI 18) dX8_isPut_203 (by decide) ?_
                refine rn_iconst (v := nI 0) dX8_isPut_205 (by decide) ?_
                refine rn_iconst (v := nI 0) dX8_isPut_206 (by decide) ?_
                refine rn_callV0 (st := []) dX8_isPut_207 cf_8_202 (m_layD (D := D) (E := (D.1 + E.1, D.2.1, zM)) hs (f := 9 + u) (g := 18) (by omega) (by decide) (by omega) hO (by show D.1 + E.1 ≤ 8; omega) (by show D.2.1 ≤ 8; omega) (by decide) (by decide) (by show 2 * D.1 + 0 ≤ 2 * (D.1 + E.1); omega) (by show 2 * D.2.1 + 0 ≤ 2 * (D.2.1); omega) hA2 hD2) (by omega) (sk_l hs 44 (by decide)) (sk_k44 hs) rfl rfl (Nat.le_of_ble_eq_true rfl) (fun r1 S1 I3 hq => ?_)
                obtain ⟨rfl, rfl, hD3, hF3⟩ := hq
                have hA3 := hA2.kept hF3 (by omega)
                have hC3 := hC2.kept hF3 (by decide)
                refine rn_aload_n dX8_isPut_210 rfl rfl ?_
                refine rn_bipush (v := nI 19) dX8_isPut_211 (by decide) ?_
                refine rn_bipush (v := nI 18) dX8_isPut_213 (by decide) ?_
                refine rn_iload_n dX8_isPut_215 rfl rfl ?_
                refine rn_bipush (v := nI 9) dX8_isPut_216 (by decide) ?_
                refine rn_icmp_neN (tgt := 232) dX8_isPut_218 (by decide) (by omega) (by omega) (fun c_218 => ?_) (fun c_218 => ?_)
                · exact absurd c_218 (by decide)
                · refine rn_iconst (v := nI 2) dX8_isPut_221 (by decide) ?_
                  refine rn_aload_n dX8_isPut_222 rfl rfl ?_
                  refine rn_getR (r := 45) dX8_isPut_223 fd_8_7 (sk_l hs 44 (by decide)) (sk_k44 hs) rfl (sk_r44_0 hs) ?_
                  refine rn_iload_n dX8_isPut_226 rfl rfl ?_
                  refine rn_ialoadN dX8_isPut_227 (sk_l hs 45 (by decide)) (sk_k45 hs) (by omega) (by omega) ?_
                  refine rn_top (y := nI D.1) (hA3.1) ?_
                  refine rn_imul dX8_isPut_228 ?_
                  refine rn_top (pk_mul _ _) ?_
                  refine rn_goto (tgt := 233) dX8_isPut_229 (by decide) ?_
                  refine rn_iload_n dX8_isPut_233 rfl rfl ?_
                  refine rn_bipush (v := nI 10) dX8_isPut_234 (by decide) ?_
                  refine rn_icmp_neN (tgt := 250) dX8_isPut_236 (by decide) (by omega) (by omega) (fun c_236 => ?_) (fun c_236 => ?_)
                  · refine rn_iconst (v := nI 0) dX8_isPut_250 (by decide) ?_
                    refine rn_callV0 (st := []) dX8_isPut_251 cf_8_202 (m_layD (D := E) (E := (D.1 + E.1, D.2.1, layM 0 0 D.1 D.2.1 D.2.2 zM)) hs (f := 19) (g := 18) (by decide) (by decide) (by decide) hE (by show D.1 + E.1 ≤ 8; omega) (by show D.2.1 ≤ 8; omega) (by omega) (by omega) (by show 2 * E.1 + 2 * D.1 ≤ 2 * (D.1 + E.1); omega) (by show 2 * E.2.1 + 0 ≤ 2 * (D.2.1); omega) hC3 hD3) (by omega) (sk_l hs 44 (by decide)) (sk_k44 hs) rfl rfl (Nat.le_of_ble_eq_true rfl) (fun r1 S1 I4 hq => ?_)
                    obtain ⟨rfl, rfl, hD4, hF4⟩ := hq
                    refine rn_iconst (v := nI 1) dX8_isPut_254 (by decide) ?_
                    refine rn_ireturn dX8_isPut_255 rfl (by decide) ?_
                    exact ⟨rfl, (((GF.rf.s19 hF1).s18 hF2).s18 hF3).s18 hF4, Or.inr ⟨_, if_pos (by omega), rfl, hD4⟩⟩
                  · exact absurd c_236 (by decide)
              · exact absurd c_172 (by decide)
          · refine rn_goto (tgt := 127) dX8_isPut_81 (by decide) ?_
            refine rn_iconst (v := nI 0) dX8_isPut_127 (by decide) ?_
            refine rn_ireturn dX8_isPut_128 rfl (by decide) ?_
            exact ⟨rfl, GF.rf, Or.inl ⟨if_neg (by omega), rfl⟩⟩
    · refine rn_iconst (v := nI 1) dX8_isPut_44 (by decide) ?_
      refine rn_goto (tgt := 49) dX8_isPut_45 (by decide) ?_
      refine rn_istore (ls' := [some (.ref 44), some (.int (nI u)), some (.int (nI 9)), some (.int (nI (9 + u))), some (.int (nI 1)), some (.int (nI 1))]) dX8_isPut_49 (by decide) rfl rfl ?_
      refine rn_iload_n dX8_isPut_51 rfl rfl ?_
      refine rn_bipush (v := nI 9) dX8_isPut_52 (by decide) ?_
      refine rn_icmp_neN (tgt := 84) dX8_isPut_54 (by decide) (by omega) (by omega) (fun c_54 => ?_) (fun c_54 => ?_)
      · exact absurd c_54 (by decide)
      · refine rn_iload dX8_isPut_57 rfl ?_
        refine rn_if_eqN (tgt := 127) dX8_isPut_59 (by decide) (by omega) (fun c_59 => ?_) (fun c_59 => ?_)
        · exact absurd c_59 (by decide)
        · refine rn_aload_n dX8_isPut_62 rfl rfl ?_
          refine rn_getR (r := 45) dX8_isPut_63 fd_8_7 (sk_l hs 44 (by decide)) (sk_k44 hs) rfl (sk_r44_0 hs) ?_
          refine rn_iload_n dX8_isPut_66 rfl rfl ?_
          refine rn_ialoadN dX8_isPut_67 (sk_l hs 45 (by decide)) (sk_k45 hs) (by omega) (by omega) ?_
          refine rn_top (y := nI D.1) (hA.1) ?_
          refine rn_aload_n dX8_isPut_68 rfl rfl ?_
          refine rn_getR (r := 45) dX8_isPut_69 fd_8_7 (sk_l hs 44 (by decide)) (sk_k44 hs) rfl (sk_r44_0 hs) ?_
          refine rn_bipush (v := nI 18) dX8_isPut_72 (by decide) ?_
          refine rn_ialoadN dX8_isPut_74 (sk_l hs 45 (by decide)) (sk_k45 hs) (by omega) (by omega) ?_
          refine rn_top (y := nI E.1) (hH.1) ?_
          refine rn_iadd dX8_isPut_75 ?_
          refine rn_top (nI_add _ _) ?_
          refine rn_bipush (v := nI 8) dX8_isPut_76 (by decide) ?_
          refine rn_icmp_leN (tgt := 129) dX8_isPut_78 (by decide) (by omega) (by omega) (fun c_78 => ?_) (fun c_78 => ?_)
          · refine rn_aload_n dX8_isPut_129 rfl rfl ?_
            refine rn_bipush (v := nI 18) dX8_isPut_130 (by decide) ?_
            refine rn_bipush (v := nI 19) dX8_isPut_132 (by decide) ?_
            refine rn_callV0 (st := []) dX8_isPut_134 cf_8_128 (m_copyD hs (f := 18) (g := 19) (by decide) (by decide) (by decide) hE hH) (by omega) (sk_l hs 44 (by decide)) (sk_k44 hs) rfl rfl (Nat.le_of_ble_eq_true rfl) (fun r1 S1 I1 hq => ?_)
            obtain ⟨rfl, rfl, hC1, hF1⟩ := hq
            have hA1 := hA.kept hF1 (by omega)
            refine rn_aload_n dX8_isPut_137 rfl rfl ?_
            refine rn_bipush (v := nI 18) dX8_isPut_138 (by decide) ?_
            refine rn_iload_n dX8_isPut_140 rfl rfl ?_
            refine rn_bipush (v := nI 9) dX8_isPut_141 (by decide) ?_
            refine rn_icmp_neN (tgt := 163) dX8_isPut_143 (by decide) (by omega) (by omega) (fun c_143 => ?_) (fun c_143 => ?_)
            · exact absurd c_143 (by decide)
            · refine rn_aload_n dX8_isPut_146 rfl rfl ?_
              refine rn_getR (r := 45) dX8_isPut_147 fd_8_7 (sk_l hs 44 (by decide)) (sk_k44 hs) rfl (sk_r44_0 hs) ?_
              refine rn_iload_n dX8_isPut_150 rfl rfl ?_
              refine rn_ialoadN dX8_isPut_151 (sk_l hs 45 (by decide)) (sk_k45 hs) (by omega) (by omega) ?_
              refine rn_top (y := nI D.1) (hA1.1) ?_
              refine rn_aload_n dX8_isPut_152 rfl rfl ?_
              refine rn_getR (r := 45) dX8_isPut_153 fd_8_7 (sk_l hs 44 (by decide)) (sk_k44 hs) rfl (sk_r44_0 hs) ?_
              refine rn_bipush (v := nI 19) dX8_isPut_156 (by decide) ?_
              refine rn_ialoadN dX8_isPut_158 (sk_l hs 45 (by decide)) (sk_k45 hs) (by omega) (by omega) ?_
              refine rn_top (y := nI E.1) (hC1.1) ?_
              refine rn_iadd dX8_isPut_159 ?_
              refine rn_top (nI_add _ _) ?_
              refine rn_goto (tgt := 169) dX8_isPut_160 (by decide) ?_
              refine rn_iload_n dX8_isPut_169 rfl rfl ?_
              refine rn_bipush (v := nI 10) dX8_isPut_170 (by decide) ?_
              refine rn_icmp_neN (tgt := 192) dX8_isPut_172 (by decide) (by omega) (by omega) (fun c_172 => ?_) (fun c_172 => ?_)
              · refine rn_aload_n dX8_isPut_192 rfl rfl ?_
                refine rn_getR (r := 46) dX8_isPut_193 fd_8_13 (sk_l hs 44 (by decide)) (sk_k44 hs) rfl (sk_r44_1 hs) ?_
                refine rn_iload_n dX8_isPut_196 rfl rfl ?_
                refine rn_ialoadN dX8_isPut_197 (sk_l hs 46 (by decide)) (sk_k46 hs) (by omega) (by omega) ?_
                refine rn_top (y := nI D.2.1) (hA1.2.1) ?_
                refine rn_callV0 (st := []) dX8_isPut_198 cf_8_132 (m_plainD hs (g := 18) (w := D.1 + E.1) (h := D.2.1) (by decide)) (by omega) (sk_l hs 44 (by decide)) (sk_k44 hs) rfl rfl (Nat.le_of_ble_eq_true rfl) (fun r1 S1 I2 hq => ?_)
                obtain ⟨rfl, rfl, hD2, hF2⟩ := hq
                have hA2 := hA1.kept hF2 (by omega)
                have hC2 := hC1.kept hF2 (by decide)
                refine rn_aload_n dX8_isPut_201 rfl rfl ?_
                refine rn_iload_n dX8_isPut_202 rfl rfl ?_
                refine rn_bipush (v := nI 18) dX8_isPut_203 (by decide) ?_
                refine rn_iconst (v := nI 0) dX8_isPut_205 (by decide) ?_
                refine rn_iconst (v := nI 0) dX8_isPut_206 (by decide) ?_
                refine rn_callV0 (st := []) dX8_isPut_207 cf_8_202 (m_layD (D := D) (E := (D.1 + E.1, D.2.1, zM)) hs (f := 9 + u) (g := 18) (by omega) (by decide) (by omega) hO (by show D.1 + E.1 ≤ 8; omega) (by show D.2.1 ≤ 8; omega) (by decide) (by decide) (by show 2 * D.1 + 0 ≤ 2 * (D.1 + E.1); omega) (by show 2 * D.2.1 + 0 ≤ 2 * (D.2.1); omega) hA2 hD2) (by omega) (sk_l hs 44 (by decide)) (sk_k44 hs) rfl rfl (Nat.le_of_ble_eq_true rfl) (fun r1 S1 I3 hq => ?_)
                obtain ⟨rfl, rfl, hD3, hF3⟩ := hq
                have hA3 := hA2.kept hF3 (by omega)
                have hC3 := hC2.kept hF3 (by decide)
                refine rn_aload_n dX8_isPut_210 rfl rfl ?_
                refine rn_bipush (v := nI 19) dX8_isPut_211 (by decide) ?_
                refine rn_bipush (v := nI 18) dX8_isPut_213 (by decide) ?_
                refine rn_iload_n dX8_isPut_215 rfl rfl ?_
                refine rn_bipush (v := nI 9) dX8_isPut_216 (by decide) ?_
                refine rn_icmp_neN (tgt := 232) dX8_isPut_218 (by decide) (by omega) (by omega) (fun c_218 => ?_) (fun c_218 => ?_)
                · exact absurd c_218 (by decide)
                · refine rn_iconst (v := nI 2) dX8_isPut_221 (by decide) ?_
                  refine rn_aload_n dX8_isPut_222 rfl rfl ?_
                  refine rn_getR (r := 45) dX8_isPut_223 fd_8_7 (sk_l hs 44 (by decide)) (sk_k44 hs) rfl (sk_r44_0 hs) ?_
                  refine rn_iload_n dX8_isPut_226 rfl rfl ?_
                  refine rn_ialoadN dX8_isPut_227 (sk_l hs 45 (by decide)) (sk_k45 hs) (by omega) (by omega) ?_
                  refine rn_top (y := nI D.1) (hA3.1) ?_
                  refine rn_imul dX8_isPut_228 ?_
                  refine rn_top (pk_mul _ _) ?_
                  refine rn_goto (tgt := 233) dX8_isPut_229 (by decide) ?_
                  refine rn_iload_n dX8_isPut_233 rfl rfl ?_
                  refine rn_bipush (v := nI 10) dX8_isPut_234 (by decide) ?_
                  refine rn_icmp_neN (tgt := 250) dX8_isPut_236 (by decide) (by omega) (by omega) (fun c_236 => ?_) (fun c_236 => ?_)
                  · refine rn_iconst (v := nI 0) dX8_isPut_250 (by decide) ?_
                    refine rn_callV0 (st := []) dX8_isPut_251 cf_8_202 (m_layD (D := E) (E := (D.1 + E.1, D.2.1, layM 0 0 D.1 D.2.1 D.2.2 zM)) hs (f := 19) (g := 18) (by decide) (by decide) (by decide) hE (by show D.1 + E.1 ≤ 8; omega) (by show D.2.1 ≤ 8; omega) (by omega) (by omega) (by show 2 * E.1 + 2 * D.1 ≤ 2 * (D.1 + E.1); omega) (by show 2 * E.2.1 + 0 ≤ 2 * (D.2.1); omega) hC3 hD3) (by omega) (sk_l hs 44 (by decide)) (sk_k44 hs) rfl rfl (Nat.le_of_ble_eq_true rfl) (fun r1 S1 I4 hq => ?_)
                    obtain ⟨rfl, rfl, hD4, hF4⟩ := hq
                    refine rn_iconst (v := nI 1) dX8_isPut_254 (by decide) ?_
                    refine rn_ireturn dX8_isPut_255 rfl (by decide) ?_
                    exact ⟨rfl, (((GF.rf.s19 hF1).s18 hF2).s18 hF3).s18 hF4, Or.inr ⟨_, if_pos (by omega), rfl, hD4⟩⟩
                  · exact absurd c_236 (by decide)
              · exact absurd c_172 (by decide)
          · refine rn_goto (tgt := 127) dX8_isPut_81 (by decide) ?_
            refine rn_iconst (v := nI 0) dX8_isPut_127 (by decide) ?_
            refine rn_ireturn dX8_isPut_128 rfl (by decide) ?_
            exact ⟨rfl, GF.rf, Or.inl ⟨if_neg (by omega), rfl⟩⟩
set_option maxHeartbeats 1000000 in
set_option maxRecDepth 100000 in
theorem c_X8_isPut_10 {S : am_S} (hs : sk S) {I : am_I} {D E : Dw} {u : Nat} (hu : u < 8) (hO : okD D) (hE : okD E) (hA : grD I (9 + u) D) (hH : grD I 18 E) : am_Mt 2 Y_X8_isPut (0, 0) [.ref 44, .int (nI u), .int (nI 10)] S I (OX S I (oAbv D E)) := by
  obtain ⟨⟨w1, w8⟩, ⟨h1, h8⟩, hM⟩ := id hO
  obtain ⟨⟨v1, v8⟩, ⟨g1, g8⟩, hN⟩ := id hE
  refine am_mt ⟨by decide +kernel, rfl⟩ (Nat.le_of_ble_eq_true rfl) rfl ?_
  refine rn_bipush (v := nI 9) dX8_isPut_0 (by decide) ?_
  refine rn_iload_n dX8_isPut_2 rfl rfl ?_
  refine rn_iadd dX8_isPut_3 ?_
  refine rn_top (nI_add _ _) ?_
  refine rn_istore_n (ls' := [some (.ref 44), some (.int (nI u)), some (.int (nI 10)), some (.int (nI (9 + u))), none, none]) dX8_isPut_4 rfl (by decide) rfl rfl ?_
  refine rn_aload_n dX8_isPut_5 rfl rfl ?_
  refine rn_getR (r := 46) dX8_isPut_6 fd_8_13 (sk_l hs 44 (by decide)) (sk_k44 hs) rfl (sk_r44_1 hs) ?_
  refine rn_iload_n dX8_isPut_9 rfl rfl ?_
  refine rn_ialoadN dX8_isPut_10 (sk_l hs 46 (by decide)) (sk_k46 hs) (by omega) (by omega) ?_
  refine rn_top (y := nI D.2.1) (hA.2.1) ?_
  refine rn_aload_n dX8_isPut_11 rfl rfl ?_
  refine rn_getR (r := 46) dX8_isPut_12 fd_8_13 (sk_l hs 44 (by decide)) (sk_k44 hs) rfl (sk_r44_1 hs) ?_
  refine rn_bipush (v := nI 18) dX8_isPut_15 (by decide) ?_
  refine rn_ialoadN dX8_isPut_17 (sk_l hs 46 (by decide)) (sk_k46 hs) (by omega) (by omega) ?_
  refine rn_top (y := nI E.2.1) (hH.2.1) ?_
  refine rn_icmp_neN (tgt := 25) dX8_isPut_18 (by decide) (by omega) (by omega) (fun c_18 => ?_) (fun c_18 => ?_)
  · refine rn_iconst (v := nI 0) dX8_isPut_25 (by decide) ?_
    refine rn_istore (ls' := [some (.ref 44), some (.int (nI u)), some (.int (nI 10)), some (.int (nI (9 + u))), some (.int (nI 0)), none]) dX8_isPut_26 (by decide) rfl rfl ?_
    refine rn_aload_n dX8_isPut_28 rfl rfl ?_
    refine rn_getR (r := 45) dX8_isPut_29 fd_8_7 (sk_l hs 44 (by decide)) (sk_k44 hs) rfl (sk_r44_0 hs) ?_
    refine rn_iload_n dX8_isPut_32 rfl rfl ?_
    refine rn_ialoadN dX8_isPut_33 (sk_l hs 45 (by decide)) (sk_k45 hs) (by omega) (by omega) ?_
    refine rn_top (y := nI D.1) (hA.1) ?_
    refine rn_aload_n dX8_isPut_34 rfl rfl ?_
    refine rn_getR (r := 45) dX8_isPut_35 fd_8_7 (sk_l hs 44 (by decide)) (sk_k44 hs) rfl (sk_r44_0 hs) ?_
    refine rn_bipush (v := nI 18) dX8_isPut_38 (by decide) ?_
    refine rn_ialoadN dX8_isPut_40 (sk_l hs 45 (by decide)) (sk_k45 hs) (by omega) (by omega) ?_
    refine rn_top (y := nI E.1) (hH.1) ?_
    refine rn_icmp_neN (tgt := 48) dX8_isPut_41 (by decide) (by omega) (by omega) (fun c_41 => ?_) (fun c_41 => ?_)
    · refine rn_iconst (v := nI 0) dX8_isPut_48 (by decide) ?_
      refine rn_istore (ls' := [some (.ref 44), some (.int (nI u)), some (.int (nI 10)), some (.int (nI (9 + u))), some (.int (nI 0)), some (.int (nI 0))]) dX8_isPut_49 (by decide) rfl rfl ?_
      refine rn_iload_n dX8_isPut_51 rfl rfl ?_
      refine rn_bipush (v := nI 9) dX8_isPut_52 (by decide) ?_
      refine rn_icmp_neN (tgt := 84) dX8_isPut_54 (by decide) (by omega) (by omega) (fun c_54 => ?_) (fun c_54 => ?_)
      · refine rn_iload_n dX8_isPut_84 rfl rfl ?_
        refine rn_bipush (v := nI 10) dX8_isPut_85 (by decide) ?_
        refine rn_icmp_neN (tgt := 117) dX8_isPut_87 (by decide) (by omega) (by omega) (fun c_87 => ?_) (fun c_87 => ?_)
        · exact absurd c_87 (by decide)
        · refine rn_iload dX8_isPut_90 rfl ?_
          refine rn_if_eqN (tgt := 127) dX8_isPut_92 (by decide) (by omega) (fun c_92 => ?_) (fun c_92 => ?_)
          · refine rn_iconst (v := nI 0) dX8_isPut_127 (by decide) ?_
            refine rn_ireturn dX8_isPut_128 rfl (by decide) ?_
            exact ⟨rfl, GF.rf, Or.inl ⟨if_neg (by omega), rfl⟩⟩
          · exact absurd c_92 (by decide)
      · exact absurd c_54 (by decide)
    · refine rn_iconst (v := nI 1) dX8_isPut_44 (by decide) ?_
      refine rn_goto (tgt := 49) dX8_isPut_45 (by decide) ?_
      refine rn_istore (ls' := [some (.ref 44), some (.int (nI u)), some (.int (nI 10)), some (.int (nI (9 + u))), some (.int (nI 0)), some (.int (nI 1))]) dX8_isPut_49 (by decide) rfl rfl ?_
      refine rn_iload_n dX8_isPut_51 rfl rfl ?_
      refine rn_bipush (v := nI 9) dX8_isPut_52 (by decide) ?_
      refine rn_icmp_neN (tgt := 84) dX8_isPut_54 (by decide) (by omega) (by omega) (fun c_54 => ?_) (fun c_54 => ?_)
      · refine rn_iload_n dX8_isPut_84 rfl rfl ?_
        refine rn_bipush (v := nI 10) dX8_isPut_85 (by decide) ?_
        refine rn_icmp_neN (tgt := 117) dX8_isPut_87 (by decide) (by omega) (by omega) (fun c_87 => ?_) (fun c_87 => ?_)
        · exact absurd c_87 (by decide)
        · refine rn_iload dX8_isPut_90 rfl ?_
          refine rn_if_eqN (tgt := 127) dX8_isPut_92 (by decide) (by omega) (fun c_92 => ?_) (fun c_92 => ?_)
          · exact absurd c_92 (by decide)
          · refine rn_aload_n dX8_isPut_95 rfl rfl ?_
            refine rn_getR (r := 46) dX8_isPut_96 fd_8_13 (sk_l hs 44 (by decide)) (sk_k44 hs) rfl (sk_r44_1 hs) ?_
            refine rn_iload_n dX8_isPut_99 rfl rfl ?_
            refine rn_ialoadN dX8_isPut_100 (sk_l hs 46 (by decide)) (sk_k46 hs) (by omega) (by omega) ?_
            refine rn_top (y := nI D.2.1) (hA.2.1) ?_
            refine rn_aload_n dX8_isPut_101 rfl rfl ?_
            refine rn_getR (r := 46) dX8_isPut_102 fd_8_13 (sk_l hs 44 (by decide)) (sk_k44 hs) rfl (sk_r44_1 hs) ?_
            refine rn_bipush (v := nI 18) dX8_isPut_105 (by decide) ?_
            refine rn_ialoadN dX8_isPut_107 (sk_l hs 46 (by decide)) (sk_k46 hs) (by omega) (by omega) ?_
            refine rn_top (y := nI E.2.1) (hH.2.1) ?_
            refine rn_iadd dX8_isPut_108 ?_
            refine rn_top (nI_add _ _) ?_
            refine rn_bipush (v := nI 8) dX8_isPut_109 (by decide) ?_
            refine rn_icmp_leN (tgt := 129) dX8_isPut_111 (by decide) (by omega) (by omega) (fun c_111 => ?_) (fun c_111 => ?_)
            · refine rn_aload_n dX8_isPut_129 rfl rfl ?_
              refine rn_bipush (v := nI 18) dX8_isPut_130 (by decide) ?_
              refine rn_bipush (v := nI 19) dX8_isPut_132 (by decide) ?_
              refine rn_callV0 (st := []) dX8_isPut_134 cf_8_128 (m_copyD hs (f := 18) (g := 19) (by decide) (by decide) (by decide) hE hH) (by omega) (sk_l hs 44 (by decide)) (sk_k44 hs) rfl rfl (Nat.le_of_ble_eq_true rfl) (fun r1 S1 I1 hq => ?_)
              obtain ⟨rfl, rfl, hC1, hF1⟩ := hq
              have hA1 := hA.kept hF1 (by omega)
              refine rn_aload_n dX8_isPut_137 rfl rfl ?_
              refine rn_bipush (v := nI 18) dX8_isPut_138 (by decide) ?_
              refine rn_iload_n dX8_isPut_140 rfl rfl ?_
              refine rn_bipush (v := nI 9) dX8_isPut_141 (by decide) ?_
              refine rn_icmp_neN (tgt := 163) dX8_isPut_143 (by decide) (by omega) (by omega) (fun c_143 => ?_) (fun c_143 => ?_)
              · refine rn_aload_n dX8_isPut_163 rfl rfl ?_
                refine rn_getR (r := 45) dX8_isPut_164 fd_8_7 (sk_l hs 44 (by decide)) (sk_k44 hs) rfl (sk_r44_0 hs) ?_
                refine rn_iload_n dX8_isPut_167 rfl rfl ?_
                refine rn_ialoadN dX8_isPut_168 (sk_l hs 45 (by decide)) (sk_k45 hs) (by omega) (by omega) ?_
                refine rn_top (y := nI D.1) (hA1.1) ?_
                refine rn_iload_n dX8_isPut_169 rfl rfl ?_
                refine rn_bipush (v := nI 10) dX8_isPut_170 (by decide) ?_
                refine rn_icmp_neN (tgt := 192) dX8_isPut_172 (by decide) (by omega) (by omega) (fun c_172 => ?_) (fun c_172 => ?_)
                · exact absurd c_172 (by decide)
                · refine rn_aload_n dX8_isPut_175 rfl rfl ?_
                  refine rn_getR (r := 46) dX8_isPut_176 fd_8_13 (sk_l hs 44 (by decide)) (sk_k44 hs) rfl (sk_r44_1 hs) ?_
                  refine rn_iload_n dX8_isPut_179 rfl rfl ?_
                  refine rn_ialoadN dX8_isPut_180 (sk_l hs 46 (by decide)) (sk_k46 hs) (by omega) (by omega) ?_
                  refine rn_top (y := nI D.2.1) (hA1.2.1) ?_
                  refine rn_aload_n dX8_isPut_181 rfl rfl ?_
                  refine rn_getR (r := 46) dX8_isPut_182 fd_8_13 (sk_l hs 44 (by decide)) (sk_k44 hs) rfl (sk_r44_1 hs) ?_
                  refine rn_bipush (v := nI 19) dX8_isPut_185 (by decide) ?_
                  refine rn_ialoadN dX8_isPut_187 (sk_l hs 46 (by decide)) (sk_k46 hs) (by omega) (by omega) ?_
                  refine rn_top (y := nI E.2.1) (hC1.2.1) ?_
                  refine rn_iadd dX8_isPut_188 ?_
                  refine rn_top (nI_add _ _) ?_
                  refine rn_goto (tgt := 198) dX8_isPut_189 (by decide) ?_
                  refine rn_callV0 (st := []) dX8_isPut_198 cf_8_132 (m_plainD hs (g := 18) (w := D.1) (h := D.2.1 + E.2.1) (by decide)) (by omega) (sk_l hs 44 (by decide)) (sk_k44 hs) rfl rfl (Nat.le_of_ble_eq_true rfl) (fun r1 S1 I2 hq => ?_)
                  obtain ⟨rfl, rfl, hD2, hF2⟩ := hq
                  have hA2 := hA1.kept hF2 (by omega)
                  have hC2 := hC1.kept hF2 (by decide)
                  refine rn_aload_n dX8_isPut_201 rfl rfl ?_
                  refine rn_iload_n dX8_isPut_202 rfl rfl ?_
                  refine rn_bipush (v := nI 18) dX8_isPut_203 (by decide) ?_
                  refine rn_iconst (v := nI 0) dX8_isPut_205 (by decide) ?_
                  refine rn_iconst (v := nI 0) dX8_isPut_206 (by decide) ?_
                  refine rn_callV0 (st := []) dX8_isPut_207 cf_8_202 (m_layD (D := D) (E := (D.1, D.2.1 + E.2.1, zM)) hs (f := 9 + u) (g := 18) (by omega) (by decide) (by omega) hO (by show D.1 ≤ 8; omega) (by show D.2.1 + E.2.1 ≤ 8; omega) (by decide) (by decide) (by show 2 * D.1 + 0 ≤ 2 * (D.1); omega) (by show 2 * D.2.1 + 0 ≤ 2 * (D.2.1 + E.2.1); omega) hA2 hD2) (by omega) (sk_l hs 44 (by decide)) (sk_k44 hs) rfl rfl (Nat.le_of_ble_eq_true rfl) (fun r1 S1 I3 hq => ?_)
                  obtain ⟨rfl, rfl, hD3, hF3⟩ := hq
                  have hA3 := hA2.kept hF3 (by omega)
                  have hC3 := hC2.kept hF3 (by decide)
                  refine rn_aload_n dX8_isPut_210 rfl rfl ?_
                  refine rn_bipush (v := nI 19) dX8_isPut_211 (by decide) ?_
                  refine rn_bipush (v := nI 18) dX8_isPut_213 (by decide) ?_
                  refine rn_iload_n dX8_isPut_215 rfl rfl ?_
                  refine rn_bipush (v := nI 9) dX8_isPut_216 (by decide) ?_
                  refine rn_icmp_neN (tgt := 232) dX8_isPut_218 (by decide) (by omega) (by omega) (fun c_218 => ?_) (fun c_218 => ?_)
                  · refine rn_iconst (v := nI 0) dX8_isPut_232 (by decide) ?_
                    refine rn_iload_n dX8_isPut_233 rfl rfl ?_
                    refine rn_bipush (v := nI 10) dX8_isPut_234 (by decide) ?_
                    refine rn_icmp_neN (tgt := 250) dX8_isPut_236 (by decide) (by omega) (by omega) (fun c_236 => ?_) (fun c_236 => ?_)
                    · exact absurd c_236 (by decide)
                    · refine rn_iconst (v := nI 2) dX8_isPut_239 (by decide) ?_
                      refine rn_aload_n dX8_isPut_240 rfl rfl ?_
                      refine rn_getR (r := 46) dX8_isPut_241 fd_8_13 (sk_l hs 44 (by decide)) (sk_k44 hs) rfl (sk_r44_1 hs) ?_
                      refine rn_iload_n dX8_isPut_244 rfl rfl ?_
                      refine rn_ialoadN dX8_isPut_245 (sk_l hs 46 (by decide)) (sk_k46 hs) (by omega) (by omega) ?_
                      refine rn_top (y := nI D.2.1) (hA3.2.1) ?_
                      refine rn_imul dX8_isPut_246 ?_
                      refine rn_top (pk_mul _ _) ?_
                      refine rn_goto (tgt := 251) dX8_isPut_247 (by decide) ?_
                      refine rn_callV0 (st := []) dX8_isPut_251 cf_8_202 (m_layD (D := E) (E := (D.1, D.2.1 + E.2.1, layM 0 0 D.1 D.2.1 D.2.2 zM)) hs (f := 19) (g := 18) (by decide) (by decide) (by decide) hE (by show D.1 ≤ 8; omega) (by show D.2.1 + E.2.1 ≤ 8; omega) (by omega) (by omega) (by show 2 * E.1 + 0 ≤ 2 * (D.1); omega) (by show 2 * E.2.1 + 2 * D.2.1 ≤ 2 * (D.2.1 + E.2.1); omega) hC3 hD3) (by omega) (sk_l hs 44 (by decide)) (sk_k44 hs) rfl rfl (Nat.le_of_ble_eq_true rfl) (fun r1 S1 I4 hq => ?_)
                      obtain ⟨rfl, rfl, hD4, hF4⟩ := hq
                      refine rn_iconst (v := nI 1) dX8_isPut_254 (by decide) ?_
                      refine rn_ireturn dX8_isPut_255 rfl (by decide) ?_
                      exact ⟨rfl, (((GF.rf.s19 hF1).s18 hF2).s18 hF3).s18 hF4, Or.inr ⟨_, if_pos (by omega), rfl, hD4⟩⟩
                  · exact absurd c_218 (by decide)
              · exact absurd c_143 (by decide)
            · refine rn_goto (tgt := 127) dX8_isPut_114 (by decide) ?_
              refine rn_iconst (v := nI 0) dX8_isPut_127 (by decide) ?_
              refine rn_ireturn dX8_isPut_128 rfl (by decide) ?_
              exact ⟨rfl, GF.rf, Or.inl ⟨if_neg (by omega), rfl⟩⟩
      · exact absurd c_54 (by decide)
  · refine rn_iconst (v := nI 1) dX8_isPut_21 (by decide) ?_
    refine rn_goto (tgt := 26) dX8_isPut_22 (by decide) ?_
    refine rn_istore (ls' := [some (.ref 44), some (.int (nI u)), some (.int (nI 10)), some (.int (nI (9 + u))), some (.int (nI 1)), none]) dX8_isPut_26 (by decide) rfl rfl ?_
    refine rn_aload_n dX8_isPut_28 rfl rfl ?_
    refine rn_getR (r := 45) dX8_isPut_29 fd_8_7 (sk_l hs 44 (by decide)) (sk_k44 hs) rfl (sk_r44_0 hs) ?_
    refine rn_iload_n dX8_isPut_32 rfl rfl ?_
    refine rn_ialoadN dX8_isPut_33 (sk_l hs 45 (by decide)) (sk_k45 hs) (by omega) (by omega) ?_
    refine rn_top (y := nI D.1) (hA.1) ?_
    refine rn_aload_n dX8_isPut_34 rfl rfl ?_
    refine rn_getR (r := 45) dX8_isPut_35 fd_8_7 (sk_l hs 44 (by decide)) (sk_k44 hs) rfl (sk_r44_0 hs) ?_
    refine rn_bipush (v := nI 18) dX8_isPut_38 (by decide) ?_
    refine rn_ialoadN dX8_isPut_40 (sk_l hs 45 (by decide)) (sk_k45 hs) (by omega) (by omega) ?_
    refine rn_top (y := nI E.1) (hH.1) ?_
    refine rn_icmp_neN (tgt := 48) dX8_isPut_41 (by decide) (by omega) (by omega) (fun c_41 => ?_) (fun c_41 => ?_)
    · refine rn_iconst (v := nI 0) dX8_isPut_48 (by decide) ?_
      refine rn_istore (ls' := [some (.ref 44), some (.int (nI u)), some (.int (nI 10)), some (.int (nI (9 + u))), some (.int (nI 1)), some (.int (nI 0))]) dX8_isPut_49 (by decide) rfl rfl ?_
      refine rn_iload_n dX8_isPut_51 rfl rfl ?_
      refine rn_bipush (v := nI 9) dX8_isPut_52 (by decide) ?_
      refine rn_icmp_neN (tgt := 84) dX8_isPut_54 (by decide) (by omega) (by omega) (fun c_54 => ?_) (fun c_54 => ?_)
      · refine rn_iload_n dX8_isPut_84 rfl rfl ?_
        refine rn_bipush (v := nI 10) dX8_isPut_85 (by decide) ?_
        refine rn_icmp_neN (tgt := 117) dX8_isPut_87 (by decide) (by omega) (by omega) (fun c_87 => ?_) (fun c_87 => ?_)
        · exact absurd c_87 (by decide)
        · refine rn_iload dX8_isPut_90 rfl ?_
          refine rn_if_eqN (tgt := 127) dX8_isPut_92 (by decide) (by omega) (fun c_92 => ?_) (fun c_92 => ?_)
          · refine rn_iconst (v := nI 0) dX8_isPut_127 (by decide) ?_
            refine rn_ireturn dX8_isPut_128 rfl (by decide) ?_
            exact ⟨rfl, GF.rf, Or.inl ⟨if_neg (by omega), rfl⟩⟩
          · exact absurd c_92 (by decide)
      · exact absurd c_54 (by decide)
    · refine rn_iconst (v := nI 1) dX8_isPut_44 (by decide) ?_
      refine rn_goto (tgt := 49) dX8_isPut_45 (by decide) ?_
      refine rn_istore (ls' := [some (.ref 44), some (.int (nI u)), some (.int (nI 10)), some (.int (nI (9 + u))), some (.int (nI 1)), some (.int (nI 1))]) dX8_isPut_49 (by decide) rfl rfl ?_
      refine rn_iload_n dX8_isPut_51 rfl rfl ?_
      refine rn_bipush (v := nI 9) dX8_isPut_52 (by decide) ?_
      refine rn_icmp_neN (tgt := 84) dX8_isPut_54 (by decide) (by omega) (by omega) (fun c_54 => ?_) (fun c_54 => ?_)
      · refine rn_iload_n dX8_isPut_84 rfl rfl ?_
        refine rn_bipush (v := nI 10) dX8_isPut_85 (by decide) ?_
        refine rn_icmp_neN (tgt := 117) dX8_isPut_87 (by decide) (by omega) (by omega) (fun c_87 => ?_) (fun c_87 => ?_)
        · exact absurd c_87 (by decide)
        · refine rn_iload dX8_isPut_90 rfl ?_
          refine rn_if_eqN (tgt := 127) dX8_isPut_92 (by decide) (by omega) (fun c_92 => ?_) (fun c_92 => ?_)
          · exact absurd c_92 (by decide)
          · refine rn_aload_n dX8_isPut_95 rfl rfl ?_
            refine rn_getR (r := 46) dX8_isPut_96 fd_8_13 (sk_l hs 44 (by decide)) (sk_k44 hs) rfl (sk_r44_1 hs) ?_
            refine rn_iload_n dX8_isPut_99 rfl rfl ?_
            refine rn_ialoadN dX8_isPut_100 (sk_l hs 46 (by decide)) (sk_k46 hs) (by omega) (by omega) ?_
            refine rn_top (y := nI D.2.1) (hA.2.1) ?_
            refine rn_aload_n dX8_isPut_101 rfl rfl ?_
            refine rn_getR (r := 46) dX8_isPut_102 fd_8_13 (sk_l hs 44 (by decide)) (sk_k44 hs) rfl (sk_r44_1 hs) ?_
            refine rn_bipush (v := nI 18) dX8_isPut_105 (by decide) ?_
            refine rn_ialoadN dX8_isPut_107 (sk_l hs 46 (by decide)) (sk_k46 hs) (by omega) (by omega) ?_
            refine rn_top (y := nI E.2.1) (hH.2.1) ?_
            refine rn_iadd dX8_isPut_108 ?_
            refine rn_top (nI_add _ _) ?_
            refine rn_bipush (v := nI 8) dX8_isPut_109 (by decide) ?_
            refine rn_icmp_leN (tgt := 129) dX8_isPut_111 (by decide) (by omega) (by omega) (fun c_111 => ?_) (fun c_111 => ?_)
            · refine rn_aload_n dX8_isPut_129 rfl rfl ?_
              refine rn_bipush (v := nI 18) dX8_isPut_130 (by decide) ?_
              refine rn_bipush (v := nI 19) dX8_isPut_132 (by decide) ?_
              refine rn_callV0 (st := []) dX8_isPut_134 cf_8_128 (m_copyD hs (f := 18) (g := 19) (by decide) (by decide) (by decide) hE hH) (by omega) (sk_l hs 44 (by decide)) (sk_k44 hs) rfl rfl (Nat.le_of_ble_eq_true rfl) (fun r1 S1 I1 hq => ?_)
              obtain ⟨rfl, rfl, hC1, hF1⟩ := hq
              have hA1 := hA.kept hF1 (by omega)
              refine rn_aload_n dX8_isPut_137 rfl rfl ?_
              refine rn_bipush (v := nI 18) dX8_isPut_138 (by decide) ?_
              refine rn_iload_n dX8_isPut_140 rfl rfl ?_
              refine rn_bipush (v := nI 9) dX8_isPut_141 (by decide) ?_
              refine rn_icmp_neN (tgt := 163) dX8_isPut_143 (by decide) (by omega) (by omega) (fun c_143 => ?_) (fun c_143 => ?_)
              · refine rn_aload_n dX8_isPut_163 rfl rfl ?_
                refine rn_getR (r := 45) dX8_isPut_164 fd_8_7 (sk_l hs 44 (by decide)) (sk_k44 hs) rfl (sk_r44_0 hs) ?_
                refine rn_iload_n dX8_isPut_167 rfl rfl ?_
                refine rn_ialoadN dX8_isPut_168 (sk_l hs 45 (by decide)) (sk_k45 hs) (by omega) (by omega) ?_
                refine rn_top (y := nI D.1) (hA1.1) ?_
                refine rn_iload_n dX8_isPut_169 rfl rfl ?_
                refine rn_bipush (v := nI 10) dX8_isPut_170 (by decide) ?_
                refine rn_icmp_neN (tgt := 192) dX8_isPut_172 (by decide) (by omega) (by omega) (fun c_172 => ?_) (fun c_172 => ?_)
                · exact absurd c_172 (by decide)
                · refine rn_aload_n dX8_isPut_175 rfl rfl ?_
                  refine rn_getR (r := 46) dX8_isPut_176 fd_8_13 (sk_l hs 44 (by decide)) (sk_k44 hs) rfl (sk_r44_1 hs) ?_
                  refine rn_iload_n dX8_isPut_179 rfl rfl ?_
                  refine rn_ialoadN dX8_isPut_180 (sk_l hs 46 (by decide)) (sk_k46 hs) (by omega) (by omega) ?_
                  refine rn_top (y := nI D.2.1) (hA1.2.1) ?_
                  refine rn_aload_n dX8_isPut_181 rfl rfl ?_
                  refine rn_getR (r := 46) dX8_isPut_182 fd_8_13 (sk_l hs 44 (by decide)) (sk_k44 hs) rfl (sk_r44_1 hs) ?_
                  refine rn_bipush (v := nI 19) dX8_isPut_185 (by decide) ?_
                  refine rn_ialoadN dX8_isPut_187 (sk_l hs 46 (by decide)) (sk_k46 hs) (by omega) (by omega) ?_
                  refine rn_top (y := nI E.2.1) (hC1.2.1) ?_
                  refine rn_iadd dX8_isPut_188 ?_
                  refine rn_top (nI_add _ _) ?_
                  refine rn_goto (tgt := 198) dX8_isPut_189 (by decide) ?_
                  refine rn_callV0 (st := []) dX8_isPut_198 cf_8_132 (m_plainD hs (g := 18) (w := D.1) (h := D.2.1 + E.2.1) (by decide)) (by omega) (sk_l hs 44 (by decide)) (sk_k44 hs) rfl rfl (Nat.le_of_ble_eq_true rfl) (fun r1 S1 I2 hq => ?_)
                  obtain ⟨rfl, rfl, hD2, hF2⟩ := hq
                  have hA2 := hA1.kept hF2 (by omega)
                  have hC2 := hC1.kept hF2 (by decide)
                  refine rn_aload_n dX8_isPut_201 rfl rfl ?_
                  refine rn_iload_n dX8_isPut_202 rfl rfl ?_
                  refine rn_bipush (v := nI 18) dX8_isPut_203 (by decide) ?_
                  refine rn_iconst (v := nI 0) dX8_isPut_205 (by decide) ?_
                  refine rn_iconst (v := nI 0) dX8_isPut_206 (by decide) ?_
                  refine rn_callV0 (st := []) dX8_isPut_207 cf_8_202 (m_layD (D := D) (E := (D.1, D.2.1 + E.2.1, zM)) hs (f := 9 + u) (g := 18) (by omega) (by decide) (by omega) hO (by show D.1 ≤ 8; omega) (by show D.2.1 + E.2.1 ≤ 8; omega) (by decide) (by decide) (by show 2 * D.1 + 0 ≤ 2 * (D.1); omega) (by show 2 * D.2.1 + 0 ≤ 2 * (D.2.1 + E.2.1); omega) hA2 hD2) (by omega) (sk_l hs 44 (by decide)) (sk_k44 hs) rfl rfl (Nat.le_of_ble_eq_true rfl) (fun r1 S1 I3 hq => ?_)
                  obtain ⟨rfl, rfl, hD3, hF3⟩ := hq
                  have hA3 := hA2.kept hF3 (by omega)
                  have hC3 := hC2.kept hF3 (by decide)
                  refine rn_aload_n dX8_isPut_210 rfl rfl ?_
                  refine rn_bipush (v := nI 19) dX8_isPut_211 (by decide) ?_
                  refine rn_bipush (v := nI 18) dX8_isPut_213 (by decide) ?_
                  refine rn_iload_n dX8_isPut_215 rfl rfl ?_
                  refine rn_bipush (v := nI 9) dX8_isPut_216 (by decide) ?_
                  refine rn_icmp_neN (tgt := 232) dX8_isPut_218 (by decide) (by omega) (by omega) (fun c_218 => ?_) (fun c_218 => ?_)
                  · refine rn_iconst (v := nI 0) dX8_isPut_232 (by decide) ?_
                    refine rn_iload_n dX8_isPut_233 rfl rfl ?_
                    refine rn_bipush (v := nI 10) dX8_isPut_234 (by decide) ?_
                    refine rn_icmp_neN (tgt := 250) dX8_isPut_236 (by decide) (by omega) (by omega) (fun c_236 => ?_) (fun c_236 => ?_)
                    · exact absurd c_236 (by decide)
                    · refine rn_iconst (v := nI 2) dX8_isPut_239 (by decide) ?_
                      refine rn_aload_n dX8_isPut_240 rfl rfl ?_
                      refine rn_getR (r := 46) dX8_isPut_241 fd_8_13 (sk_l hs 44 (by decide)) (sk_k44 hs) rfl (sk_r44_1 hs) ?_
                      refine rn_iload_n dX8_isPut_244 rfl rfl ?_
                      refine rn_ialoadN dX8_isPut_245 (sk_l hs 46 (by decide)) (sk_k46 hs) (by omega) (by omega) ?_
                      refine rn_top (y := nI D.2.1) (hA3.2.1) ?_
                      refine rn_imul dX8_isPut_246 ?_
                      refine rn_top (pk_mul _ _) ?_
                      refine rn_goto (tgt := 251) dX8_isPut_247 (by decide) ?_
                      refine rn_callV0 (st := []) dX8_isPut_251 cf_8_202 (m_layD (D := E) (E := (D.1, D.2.1 + E.2.1, layM 0 0 D.1 D.2.1 D.2.2 zM)) hs (f := 19) (g := 18) (by decide) (by decide) (by decide) hE (by show D.1 ≤ 8; omega) (by show D.2.1 + E.2.1 ≤ 8; omega) (by omega) (by omega) (by show 2 * E.1 + 0 ≤ 2 * (D.1); omega) (by show 2 * E.2.1 + 2 * D.2.1 ≤ 2 * (D.2.1 + E.2.1); omega) hC3 hD3) (by omega) (sk_l hs 44 (by decide)) (sk_k44 hs) rfl rfl (Nat.le_of_ble_eq_true rfl) (fun r1 S1 I4 hq => ?_)
                      obtain ⟨rfl, rfl, hD4, hF4⟩ := hq
                      refine rn_iconst (v := nI 1) dX8_isPut_254 (by decide) ?_
                      refine rn_ireturn dX8_isPut_255 rfl (by decide) ?_
                      exact ⟨rfl, (((GF.rf.s19 hF1).s18 hF2).s18 hF3).s18 hF4, Or.inr ⟨_, if_pos (by omega), rfl, hD4⟩⟩
                  · exact absurd c_218 (by decide)
              · exact absurd c_143 (by decide)
            · refine rn_goto (tgt := 127) dX8_isPut_114 (by decide) ?_
              refine rn_iconst (v := nI 0) dX8_isPut_127 (by decide) ?_
              refine rn_ireturn dX8_isPut_128 rfl (by decide) ?_
              exact ⟨rfl, GF.rf, Or.inl ⟨if_neg (by omega), rfl⟩⟩
      · exact absurd c_54 (by decide)
set_option maxHeartbeats 1000000 in
set_option maxRecDepth 100000 in
theorem c_X8_isPut_11 {S : am_S} (hs : sk S) {I : am_I} {D E : Dw} {u : Nat} (hu : u < 8) (hO : okD D) (hE : okD E) (hA : grD I (9 + u) D) (hH : grD I 18 E) : am_Mt 2 Y_X8_isPut (0, 0) [.ref 44, .int (nI u), .int (nI 11)] S I (OX S I (oOvr D E)) := by
  obtain ⟨⟨w1, w8⟩, ⟨h1, h8⟩, hM⟩ := id hO
  obtain ⟨⟨v1, v8⟩, ⟨g1, g8⟩, hN⟩ := id hE
  refine am_mt ⟨by decide +kernel, rfl⟩ (Nat.le_of_ble_eq_true rfl) rfl ?_
  refine rn_bipush (v := nI 9) dX8_isPut_0 (by decide) ?_
  refine rn_iload_n dX8_isPut_2 rfl rfl ?_
  refine rn_iadd dX8_isPut_3 ?_
  refine rn_top (nI_add _ _) ?_
  refine rn_istore_n (ls' := [some (.ref 44), some (.int (nI u)), some (.int (nI 11)), some (.int (nI (9 + u))), none, none]) dX8_isPut_4 rfl (by decide) rfl rfl ?_
  refine rn_aload_n dX8_isPut_5 rfl rfl ?_
  refine rn_getR (r := 46) dX8_isPut_6 fd_8_13 (sk_l hs 44 (by decide)) (sk_k44 hs) rfl (sk_r44_1 hs) ?_
  refine rn_iload_n dX8_isPut_9 rfl rfl ?_
  refine rn_ialoadN dX8_isPut_10 (sk_l hs 46 (by decide)) (sk_k46 hs) (by omega) (by omega) ?_
  refine rn_top (y := nI D.2.1) (hA.2.1) ?_
  refine rn_aload_n dX8_isPut_11 rfl rfl ?_
  refine rn_getR (r := 46) dX8_isPut_12 fd_8_13 (sk_l hs 44 (by decide)) (sk_k44 hs) rfl (sk_r44_1 hs) ?_
  refine rn_bipush (v := nI 18) dX8_isPut_15 (by decide) ?_
  refine rn_ialoadN dX8_isPut_17 (sk_l hs 46 (by decide)) (sk_k46 hs) (by omega) (by omega) ?_
  refine rn_top (y := nI E.2.1) (hH.2.1) ?_
  refine rn_icmp_neN (tgt := 25) dX8_isPut_18 (by decide) (by omega) (by omega) (fun c_18 => ?_) (fun c_18 => ?_)
  · refine rn_iconst (v := nI 0) dX8_isPut_25 (by decide) ?_
    refine rn_istore (ls' := [some (.ref 44), some (.int (nI u)), some (.int (nI 11)), some (.int (nI (9 + u))), some (.int (nI 0)), none]) dX8_isPut_26 (by decide) rfl rfl ?_
    refine rn_aload_n dX8_isPut_28 rfl rfl ?_
    refine rn_getR (r := 45) dX8_isPut_29 fd_8_7 (sk_l hs 44 (by decide)) (sk_k44 hs) rfl (sk_r44_0 hs) ?_
    refine rn_iload_n dX8_isPut_32 rfl rfl ?_
    refine rn_ialoadN dX8_isPut_33 (sk_l hs 45 (by decide)) (sk_k45 hs) (by omega) (by omega) ?_
    refine rn_top (y := nI D.1) (hA.1) ?_
    refine rn_aload_n dX8_isPut_34 rfl rfl ?_
    refine rn_getR (r := 45) dX8_isPut_35 fd_8_7 (sk_l hs 44 (by decide)) (sk_k44 hs) rfl (sk_r44_0 hs) ?_
    refine rn_bipush (v := nI 18) dX8_isPut_38 (by decide) ?_
    refine rn_ialoadN dX8_isPut_40 (sk_l hs 45 (by decide)) (sk_k45 hs) (by omega) (by omega) ?_
    refine rn_top (y := nI E.1) (hH.1) ?_
    refine rn_icmp_neN (tgt := 48) dX8_isPut_41 (by decide) (by omega) (by omega) (fun c_41 => ?_) (fun c_41 => ?_)
    · refine rn_iconst (v := nI 0) dX8_isPut_48 (by decide) ?_
      refine rn_istore (ls' := [some (.ref 44), some (.int (nI u)), some (.int (nI 11)), some (.int (nI (9 + u))), some (.int (nI 0)), some (.int (nI 0))]) dX8_isPut_49 (by decide) rfl rfl ?_
      refine rn_iload_n dX8_isPut_51 rfl rfl ?_
      refine rn_bipush (v := nI 9) dX8_isPut_52 (by decide) ?_
      refine rn_icmp_neN (tgt := 84) dX8_isPut_54 (by decide) (by omega) (by omega) (fun c_54 => ?_) (fun c_54 => ?_)
      · refine rn_iload_n dX8_isPut_84 rfl rfl ?_
        refine rn_bipush (v := nI 10) dX8_isPut_85 (by decide) ?_
        refine rn_icmp_neN (tgt := 117) dX8_isPut_87 (by decide) (by omega) (by omega) (fun c_87 => ?_) (fun c_87 => ?_)
        · refine rn_iload dX8_isPut_117 rfl ?_
          refine rn_if_eqN (tgt := 127) dX8_isPut_119 (by decide) (by omega) (fun c_119 => ?_) (fun c_119 => ?_)
          · refine rn_iconst (v := nI 0) dX8_isPut_127 (by decide) ?_
            refine rn_ireturn dX8_isPut_128 rfl (by decide) ?_
            exact ⟨rfl, GF.rf, Or.inl ⟨if_neg (by omega), rfl⟩⟩
          · exact absurd c_119 (by decide)
        · exact absurd c_87 (by decide)
      · exact absurd c_54 (by decide)
    · refine rn_iconst (v := nI 1) dX8_isPut_44 (by decide) ?_
      refine rn_goto (tgt := 49) dX8_isPut_45 (by decide) ?_
      refine rn_istore (ls' := [some (.ref 44), some (.int (nI u)), some (.int (nI 11)), some (.int (nI (9 + u))), some (.int (nI 0)), some (.int (nI 1))]) dX8_isPut_49 (by decide) rfl rfl ?_
      refine rn_iload_n dX8_isPut_51 rfl rfl ?_
      refine rn_bipush (v := nI 9) dX8_isPut_52 (by decide) ?_
      refine rn_icmp_neN (tgt := 84) dX8_isPut_54 (by decide) (by omega) (by omega) (fun c_54 => ?_) (fun c_54 => ?_)
      · refine rn_iload_n dX8_isPut_84 rfl rfl ?_
        refine rn_bipush (v := nI 10) dX8_isPut_85 (by decide) ?_
        refine rn_icmp_neN (tgt := 117) dX8_isPut_87 (by decide) (by omega) (by omega) (fun c_87 => ?_) (fun c_87 => ?_)
        · refine rn_iload dX8_isPut_117 rfl ?_
          refine rn_if_eqN (tgt := 127) dX8_isPut_119 (by decide) (by omega) (fun c_119 => ?_) (fun c_119 => ?_)
          · refine rn_iconst (v := nI 0) dX8_isPut_127 (by decide) ?_
            refine rn_ireturn dX8_isPut_128 rfl (by decide) ?_
            exact ⟨rfl, GF.rf, Or.inl ⟨if_neg (by omega), rfl⟩⟩
          · exact absurd c_119 (by decide)
        · exact absurd c_87 (by decide)
      · exact absurd c_54 (by decide)
  · refine rn_iconst (v := nI 1) dX8_isPut_21 (by decide) ?_
    refine rn_goto (tgt := 26) dX8_isPut_22 (by decide) ?_
    refine rn_istore (ls' := [some (.ref 44), some (.int (nI u)), some (.int (nI 11)), some (.int (nI (9 + u))), some (.int (nI 1)), none]) dX8_isPut_26 (by decide) rfl rfl ?_
    refine rn_aload_n dX8_isPut_28 rfl rfl ?_
    refine rn_getR (r := 45) dX8_isPut_29 fd_8_7 (sk_l hs 44 (by decide)) (sk_k44 hs) rfl (sk_r44_0 hs) ?_
    refine rn_iload_n dX8_isPut_32 rfl rfl ?_
    refine rn_ialoadN dX8_isPut_33 (sk_l hs 45 (by decide)) (sk_k45 hs) (by omega) (by omega) ?_
    refine rn_top (y := nI D.1) (hA.1) ?_
    refine rn_aload_n dX8_isPut_34 rfl rfl ?_
    refine rn_getR (r := 45) dX8_isPut_35 fd_8_7 (sk_l hs 44 (by decide)) (sk_k44 hs) rfl (sk_r44_0 hs) ?_
    refine rn_bipush (v := nI 18) dX8_isPut_38 (by decide) ?_
    refine rn_ialoadN dX8_isPut_40 (sk_l hs 45 (by decide)) (sk_k45 hs) (by omega) (by omega) ?_
    refine rn_top (y := nI E.1) (hH.1) ?_
    refine rn_icmp_neN (tgt := 48) dX8_isPut_41 (by decide) (by omega) (by omega) (fun c_41 => ?_) (fun c_41 => ?_)
    · refine rn_iconst (v := nI 0) dX8_isPut_48 (by decide) ?_
      refine rn_istore (ls' := [some (.ref 44), some (.int (nI u)), some (.int (nI 11)), some (.int (nI (9 + u))), some (.int (nI 1)), some (.int (nI 0))]) dX8_isPut_49 (by decide) rfl rfl ?_
      refine rn_iload_n dX8_isPut_51 rfl rfl ?_
      refine rn_bipush (v := nI 9) dX8_isPut_52 (by decide) ?_
      refine rn_icmp_neN (tgt := 84) dX8_isPut_54 (by decide) (by omega) (by omega) (fun c_54 => ?_) (fun c_54 => ?_)
      · refine rn_iload_n dX8_isPut_84 rfl rfl ?_
        refine rn_bipush (v := nI 10) dX8_isPut_85 (by decide) ?_
        refine rn_icmp_neN (tgt := 117) dX8_isPut_87 (by decide) (by omega) (by omega) (fun c_87 => ?_) (fun c_87 => ?_)
        · refine rn_iload dX8_isPut_117 rfl ?_
          refine rn_if_eqN (tgt := 127) dX8_isPut_119 (by decide) (by omega) (fun c_119 => ?_) (fun c_119 => ?_)
          · exact absurd c_119 (by decide)
          · refine rn_iload dX8_isPut_122 rfl ?_
            refine rn_if_neN (tgt := 129) dX8_isPut_124 (by decide) (by omega) (fun c_124 => ?_) (fun c_124 => ?_)
            · exact absurd c_124 (by decide)
            · refine rn_iconst (v := nI 0) dX8_isPut_127 (by decide) ?_
              refine rn_ireturn dX8_isPut_128 rfl (by decide) ?_
              exact ⟨rfl, GF.rf, Or.inl ⟨if_neg (by omega), rfl⟩⟩
        · exact absurd c_87 (by decide)
      · exact absurd c_54 (by decide)
    · refine rn_iconst (v := nI 1) dX8_isPut_44 (by decide) ?_
      refine rn_goto (tgt := 49) dX8_isPut_45 (by decide) ?_
      refine rn_istore (ls' := [some (.ref 44), some (.int (nI u)), some (.int (nI 11)), some (.int (nI (9 + u))), some (.int (nI 1)), some (.int (nI 1))]) dX8_isPut_49 (by decide) rfl rfl ?_
      refine rn_iload_n dX8_isPut_51 rfl rfl ?_
      refine rn_bipush (v := nI 9) dX8_isPut_52 (by decide) ?_
      refine rn_icmp_neN (tgt := 84) dX8_isPut_54 (by decide) (by omega) (by omega) (fun c_54 => ?_) (fun c_54 => ?_)
      · refine rn_iload_n dX8_isPut_84 rfl rfl ?_
        refine rn_bipush (v := nI 10) dX8_isPut_85 (by decide) ?_
        refine rn_icmp_neN (tgt := 117) dX8_isPut_87 (by decide) (by omega) (by omega) (fun c_87 => ?_) (fun c_87 => ?_)
        · refine rn_iload dX8_isPut_117 rfl ?_
          refine rn_if_eqN (tgt := 127) dX8_isPut_119 (by decide) (by omega) (fun c_119 => ?_) (fun c_119 => ?_)
          · exact absurd c_119 (by decide)
          · refine rn_iload dX8_isPut_122 rfl ?_
            refine rn_if_neN (tgt := 129) dX8_isPut_124 (by decide) (by omega) (fun c_124 => ?_) (fun c_124 => ?_)
            · refine rn_aload_n dX8_isPut_129 rfl rfl ?_
              refine rn_bipush (v := nI 18) dX8_isPut_130 (by decide) ?_
              refine rn_bipush (v := nI 19) dX8_isPut_132 (by decide) ?_
              refine rn_callV0 (st := []) dX8_isPut_134 cf_8_128 (m_copyD hs (f := 18) (g := 19) (by decide) (by decide) (by decide) hE hH) (by omega) (sk_l hs 44 (by decide)) (sk_k44 hs) rfl rfl (Nat.le_of_ble_eq_true rfl) (fun r1 S1 I1 hq => ?_)
              obtain ⟨rfl, rfl, hC1, hF1⟩ := hq
              have hA1 := hA.kept hF1 (by omega)
              refine rn_aload_n dX8_isPut_137 rfl rfl ?_
              refine rn_bipush (v := nI 18) dX8_isPut_138 (by decide) ?_
              refine rn_iload_n dX8_isPut_140 rfl rfl ?_
              refine rn_bipush (v := nI 9) dX8_isPut_141 (by decide) ?_
              refine rn_icmp_neN (tgt := 163) dX8_isPut_143 (by decide) (by omega) (by omega) (fun c_143 => ?_) (fun c_143 => ?_)
              · refine rn_aload_n dX8_isPut_163 rfl rfl ?_
                refine rn_getR (r := 45) dX8_isPut_164 fd_8_7 (sk_l hs 44 (by decide)) (sk_k44 hs) rfl (sk_r44_0 hs) ?_
                refine rn_iload_n dX8_isPut_167 rfl rfl ?_
                refine rn_ialoadN dX8_isPut_168 (sk_l hs 45 (by decide)) (sk_k45 hs) (by omega) (by omega) ?_
                refine rn_top (y := nI D.1) (hA1.1) ?_
                refine rn_iload_n dX8_isPut_169 rfl rfl ?_
                refine rn_bipush (v := nI 10) dX8_isPut_170 (by decide) ?_
                refine rn_icmp_neN (tgt := 192) dX8_isPut_172 (by decide) (by omega) (by omega) (fun c_172 => ?_) (fun c_172 => ?_)
                · refine rn_aload_n dX8_isPut_192 rfl rfl ?_
                  refine rn_getR (r := 46) dX8_isPut_193 fd_8_13 (sk_l hs 44 (by decide)) (sk_k44 hs) rfl (sk_r44_1 hs) ?_
                  refine rn_iload_n dX8_isPut_196 rfl rfl ?_
                  refine rn_ialoadN dX8_isPut_197 (sk_l hs 46 (by decide)) (sk_k46 hs) (by omega) (by omega) ?_
                  refine rn_top (y := nI D.2.1) (hA1.2.1) ?_
                  refine rn_callV0 (st := []) dX8_isPut_198 cf_8_132 (m_plainD hs (g := 18) (w := D.1) (h := D.2.1) (by decide)) (by omega) (sk_l hs 44 (by decide)) (sk_k44 hs) rfl rfl (Nat.le_of_ble_eq_true rfl) (fun r1 S1 I2 hq => ?_)
                  obtain ⟨rfl, rfl, hD2, hF2⟩ := hq
                  have hA2 := hA1.kept hF2 (by omega)
                  have hC2 := hC1.kept hF2 (by decide)
                  refine rn_aload_n dX8_isPut_201 rfl rfl ?_
                  refine rn_iload_n dX8_isPut_202 rfl rfl ?_
                  refine rn_bipush (v := nI 18) dX8_isPut_203 (by decide) ?_
                  refine rn_iconst (v := nI 0) dX8_isPut_205 (by decide) ?_
                  refine rn_iconst (v := nI 0) dX8_isPut_206 (by decide) ?_
                  refine rn_callV0 (st := []) dX8_isPut_207 cf_8_202 (m_layD (D := D) (E := (D.1, D.2.1, zM)) hs (f := 9 + u) (g := 18) (by omega) (by decide) (by omega) hO (by show D.1 ≤ 8; omega) (by show D.2.1 ≤ 8; omega) (by decide) (by decide) (by show 2 * D.1 + 0 ≤ 2 * (D.1); omega) (by show 2 * D.2.1 + 0 ≤ 2 * (D.2.1); omega) hA2 hD2) (by omega) (sk_l hs 44 (by decide)) (sk_k44 hs) rfl rfl (Nat.le_of_ble_eq_true rfl) (fun r1 S1 I3 hq => ?_)
                  obtain ⟨rfl, rfl, hD3, hF3⟩ := hq
                  have hA3 := hA2.kept hF3 (by omega)
                  have hC3 := hC2.kept hF3 (by decide)
                  refine rn_aload_n dX8_isPut_210 rfl rfl ?_
                  refine rn_bipush (v := nI 19) dX8_isPut_211 (by decide) ?_
                  refine rn_bipush (v := nI 18) dX8_isPut_213 (by decide) ?_
                  refine rn_iload_n dX8_isPut_215 rfl rfl ?_
                  refine rn_bipush (v := nI 9) dX8_isPut_216 (by decide) ?_
                  refine rn_icmp_neN (tgt := 232) dX8_isPut_218 (by decide) (by omega) (by omega) (fun c_218 => ?_) (fun c_218 => ?_)
                  · refine rn_iconst (v := nI 0) dX8_isPut_232 (by decide) ?_
                    refine rn_iload_n dX8_isPut_233 rfl rfl ?_
                    refine rn_bipush (v := nI 10) dX8_isPut_234 (by decide) ?_
                    refine rn_icmp_neN (tgt := 250) dX8_isPut_236 (by decide) (by omega) (by omega) (fun c_236 => ?_) (fun c_236 => ?_)
                    · refine rn_iconst (v := nI 0) dX8_isPut_250 (by decide) ?_
                      refine rn_callV0 (st := []) dX8_isPut_251 cf_8_202 (m_layD (D := E) (E := (D.1, D.2.1, layM 0 0 D.1 D.2.1 D.2.2 zM)) hs (f := 19) (g := 18) (by decide) (by decide) (by decide) hE (by show D.1 ≤ 8; omega) (by show D.2.1 ≤ 8; omega) (by omega) (by omega) (by show 2 * E.1 + 0 ≤ 2 * (D.1); omega) (by show 2 * E.2.1 + 0 ≤ 2 * (D.2.1); omega) hC3 hD3) (by omega) (sk_l hs 44 (by decide)) (sk_k44 hs) rfl rfl (Nat.le_of_ble_eq_true rfl) (fun r1 S1 I4 hq => ?_)
                      obtain ⟨rfl, rfl, hD4, hF4⟩ := hq
                      refine rn_iconst (v := nI 1) dX8_isPut_254 (by decide) ?_
                      refine rn_ireturn dX8_isPut_255 rfl (by decide) ?_
                      exact ⟨rfl, (((GF.rf.s19 hF1).s18 hF2).s18 hF3).s18 hF4, Or.inr ⟨_, if_pos (by omega), rfl, hD4⟩⟩
                    · exact absurd c_236 (by decide)
                  · exact absurd c_218 (by decide)
                · exact absurd c_172 (by decide)
              · exact absurd c_143 (by decide)
            · exact absurd c_124 (by decide)
        · exact absurd c_87 (by decide)
      · exact absurd c_54 (by decide)
set_option maxHeartbeats 1000000 in
set_option maxRecDepth 100000 in
theorem c_X8_isDone_5 {S : am_S} (hs : sk S) {I : am_I} {D : Dw} (hO : okD D) (hD : grD I 18 D) {u : Nat} (hu : u < 8) {i j v : Nat} (i16 : i ≤ 16) (j16 : j ≤ 16) (v2 : v ≤ 2) (hi : I 58 (3 * u) = nI i) (hj : I 58 (3 * u + 1) = nI j) (hv : I 58 (3 * u + 2) = nI v) : am_Mt 3 Y_X8_isDone (0, 0) [.ref 44, .int (nI u), .int (nI 5)] S I (OX S I (oSet i j v D)) := by
  obtain ⟨⟨w1, w8⟩, ⟨h1, h8⟩, hM⟩ := id hO
  refine am_mt ⟨by decide +kernel, rfl⟩ (Nat.le_of_ble_eq_true rfl) rfl ?_
  refine rn_iload_n dX8_isDone_0 rfl rfl ?_
  refine rn_iconst (v := nI 5) dX8_isDone_1 (by decide) ?_
  refine rn_icmp_neN (tgt := 66) dX8_isDone_2 (by decide) (by omega) (by omega) (fun c_2 => ?_) (fun c_2 => ?_)
  · exact absurd c_2 (by decide)
  · refine rn_aload_n dX8_isDone_5 rfl rfl ?_
    refine rn_getR (r := 58) dX8_isDone_6 fd_8_58 (sk_l hs 44 (by decide)) (sk_k44 hs) rfl (sk_r44_24 hs) ?_
    refine rn_iconst (v := nI 3) dX8_isDone_9 (by decide) ?_
    refine rn_iload_n dX8_isDone_10 rfl rfl ?_
    refine rn_imul dX8_isDone_11 ?_
    refine rn_top (pk_mul _ _) ?_
    refine rn_ialoadN dX8_isDone_12 (sk_l hs 58 (by decide)) (sk_k58 hs) (by omega) (by omega) ?_
    refine rn_top (y := nI i) (hi) ?_
    refine rn_istore_n (ls' := [some (.ref 44), some (.int (nI u)), some (.int (nI 5)), some (.int (nI i)), none]) dX8_isDone_13 rfl (by decide) rfl rfl ?_
    refine rn_aload_n dX8_isDone_14 rfl rfl ?_
    refine rn_getR (r := 58) dX8_isDone_15 fd_8_58 (sk_l hs 44 (by decide)) (sk_k44 hs) rfl (sk_r44_24 hs) ?_
    refine rn_iconst (v := nI 3) dX8_isDone_18 (by decide) ?_
    refine rn_iload_n dX8_isDone_19 rfl rfl ?_
    refine rn_imul dX8_isDone_20 ?_
    refine rn_top (pk_mul _ _) ?_
    refine rn_iconst (v := nI 1) dX8_isDone_21 (by decide) ?_
    refine rn_iadd dX8_isDone_22 ?_
    refine rn_top (nI_add _ _) ?_
    refine rn_ialoadN dX8_isDone_23 (sk_l hs 58 (by decide)) (sk_k58 hs) (by omega) (by omega) ?_
    refine rn_top (y := nI j) (hj) ?_
    refine rn_istore (ls' := [some (.ref 44), some (.int (nI u)), some (.int (nI 5)), some (.int (nI i)), some (.int (nI j))]) dX8_isDone_24 (by decide) rfl rfl ?_
    refine rn_aload_n dX8_isDone_26 rfl rfl ?_
    refine rn_bipush (v := nI 18) dX8_isDone_27 (by decide) ?_
    refine rn_iload_n dX8_isDone_29 rfl rfl ?_
    refine rn_iload dX8_isDone_30 rfl ?_
    refine rn_callVq (st := []) dX8_isDone_32 cf_8_74 (c_X8_isInner hs (g := 18) (by decide) hD.1 hD.2.1 w1 w8 h1 h8 _ _) (by omega) (sk_l hs 44 (by decide)) (sk_k44 hs) rfl rfl (Nat.le_of_ble_eq_true rfl) ?_
    refine rn_if_neB (tgt := 40) dX8_isDone_35 (by decide) (fun c_35 => ?_) (fun c_35 => ?_)
    · have hin : nInner D.1 D.2.1 i j = true := by rw [← pInner_nI (by omega) (by omega)]; exact c_35
      refine rn_aload_n dX8_isDone_40 rfl rfl ?_
      refine rn_getR (r := 47) dX8_isDone_41 fd_8_16 (sk_l hs 44 (by decide)) (sk_k44 hs) rfl (sk_r44_2 hs) ?_
      refine rn_bipush (v := nI 18) dX8_isDone_44 (by decide) ?_
      refine rn_iload_n dX8_isDone_46 rfl rfl ?_
      refine rn_iload dX8_isDone_47 rfl ?_
      refine rn_callSq (st := [.ref 47]) dX8_isDone_49 cf_8_77 (c_X8_cell S I _ _ _) (by omega) rfl rfl (Nat.le_of_ble_eq_true rfl) ?_
      refine rn_aload_n dX8_isDone_52 rfl rfl ?_
      refine rn_getR (r := 58) dX8_isDone_53 fd_8_58 (sk_l hs 44 (by decide)) (sk_k44 hs) rfl (sk_r44_24 hs) ?_
      refine rn_iconst (v := nI 3) dX8_isDone_56 (by decide) ?_
      refine rn_iload_n dX8_isDone_57 rfl rfl ?_
      refine rn_imul dX8_isDone_58 ?_
      refine rn_top (pk_mul _ _) ?_
      refine rn_iconst (v := nI 2) dX8_isDone_59 (by decide) ?_
      refine rn_iadd dX8_isDone_60 ?_
      refine rn_top (nI_add _ _) ?_
      refine rn_ialoadN dX8_isDone_61 (sk_l hs 58 (by decide)) (sk_k58 hs) (by omega) (by omega) ?_
      refine rn_top (y := nI v) (hv) ?_
      refine rn_i2b dX8_isDone_62 ?_
      refine rn_top (y := nI v) (b8_n v2) ?_
      refine rn_bastoreN dX8_isDone_63 (sk_l hs 47 (by decide)) (sk_k47 hs) (by omega) (by omega) ?_
      refine rn_I (I' := am_up I 47 (289 * 18 + 17 * j + i) (nI v)) (by rw [show (nI v).toInt8.toInt32 = nI v from b8_n v2]) ?_
      refine rn_iconst (v := nI 1) dX8_isDone_64 (by decide) ?_
      refine rn_ireturn dX8_isDone_65 rfl (by decide) ?_
      refine ⟨rfl, GF.rf.s18 ?_, Or.inr ⟨_, if_pos hin, rfl, isGr_up w8 h8 hD hin v⟩⟩
      have hij := nIn.mp hin
      have q := gfr_up (I := I) (g := 18) (k := 17 * j + i) (by omega) (nI v)
      rwa [← Nat.add_assoc] at q
    · refine rn_iconst (v := nI 0) dX8_isDone_38 (by decide) ?_
      refine rn_ireturn dX8_isDone_39 rfl (by decide) ?_
      exact ⟨rfl, GF.rf, Or.inl ⟨if_neg (fun q => absurd c_35 (by rw [pInner_nI (by omega) (by omega), q]; decide)), rfl⟩⟩
set_option maxHeartbeats 1000000 in
set_option maxRecDepth 100000 in
theorem c_X8_isDone_6 {S : am_S} (hs : sk S) {I : am_I} {D : Dw} (hO : okD D) (hD : grD I 18 D) {u : Nat} (hu : u < 8) : am_Mt 3 Y_X8_isDone (0, 0) [.ref 44, .int (nI u), .int (nI 6)] S I (OX S I (some (oTurn D))) := by
  refine am_mt ⟨by decide +kernel, rfl⟩ (Nat.le_of_ble_eq_true rfl) rfl ?_
  refine rn_iload_n dX8_isDone_0 rfl rfl ?_
  refine rn_iconst (v := nI 5) dX8_isDone_1 (by decide) ?_
  refine rn_icmp_neN (tgt := 66) dX8_isDone_2 (by decide) (by omega) (by omega) (fun c_2 => ?_) (fun c_2 => ?_)
  · refine rn_iload_n dX8_isDone_66 rfl rfl ?_
    refine rn_bipush (v := nI 6) dX8_isDone_67 (by decide) ?_
    refine rn_icmp_neN (tgt := 78) dX8_isDone_69 (by decide) (by omega) (by omega) (fun c_69 => ?_) (fun c_69 => ?_)
    · exact absurd c_69 (by decide)
    · refine rn_aload_n dX8_isDone_72 rfl rfl ?_
      refine rn_bipush (v := nI 18) dX8_isDone_73 (by decide) ?_
      refine rn_callV0 (st := []) dX8_isDone_75 cf_8_190 (m_turnD hs (g := 18) (by decide) hO hD) (by omega) (sk_l hs 44 (by decide)) (sk_k44 hs) rfl rfl (Nat.le_of_ble_eq_true rfl) (fun r1 S1 I1 hq => ?_)
      obtain ⟨rfl, rfl, hD1, hF1⟩ := hq
      refine rn_iload_n dX8_isDone_78 rfl rfl ?_
      refine rn_bipush (v := nI 7) dX8_isDone_79 (by decide) ?_
      refine rn_icmp_neN (tgt := 90) dX8_isDone_81 (by decide) (by omega) (by omega) (fun c_81 => ?_) (fun c_81 => ?_)
      · refine rn_iload_n dX8_isDone_90 rfl rfl ?_
        refine rn_bipush (v := nI 8) dX8_isDone_91 (by decide) ?_
        refine rn_icmp_neN (tgt := 109) dX8_isDone_93 (by decide) (by omega) (by omega) (fun c_93 => ?_) (fun c_93 => ?_)
        · refine rn_iload_n dX8_isDone_109 rfl rfl ?_
          refine rn_bipush (v := nI 9) dX8_isDone_110 (by decide) ?_
          refine rn_icmp_ltN (tgt := 124) dX8_isDone_112 (by decide) (by omega) (by omega) (fun c_112 => ?_) (fun c_112 => ?_)
          · refine rn_iconst (v := nI 1) dX8_isDone_124 (by decide) ?_
            refine rn_goto (tgt := 129) dX8_isDone_125 (by decide) ?_
            refine rn_ireturn dX8_isDone_129 rfl (by decide) ?_
            exact ⟨rfl, hF1, Or.inr ⟨_, rfl, rfl, hD1⟩⟩
          · exact absurd c_112 (by decide)
        · exact absurd c_93 (by decide)
      · exact absurd c_81 (by decide)
  · exact absurd c_2 (by decide)
set_option maxHeartbeats 1000000 in
set_option maxRecDepth 100000 in
theorem c_X8_isDone_7 {S : am_S} (hs : sk S) {I : am_I} {D : Dw} (hO : okD D) (hD : grD I 18 D) {u : Nat} (hu : u < 8) : am_Mt 3 Y_X8_isDone (0, 0) [.ref 44, .int (nI u), .int (nI 7)] S I (OX S I (some (oFlip D))) := by
  refine am_mt ⟨by decide +kernel, rfl⟩ (Nat.le_of_ble_eq_true rfl) rfl ?_
  refine rn_iload_n dX8_isDone_0 rfl rfl ?_
  refine rn_iconst (v := nI 5) dX8_isDone_1 (by decide) ?_
  refine rn_icmp_neN (tgt := 66) dX8_isDone_2 (by decide) (by omega) (by omega) (fun c_2 => ?_) (fun c_2 => ?_)
  · refine rn_iload_n dX8_isDone_66 rfl rfl ?_
    refine rn_bipush (v := nI 6) dX8_isDone_67 (by decide) ?_
    refine rn_icmp_neN (tgt := 78) dX8_isDone_69 (by decide) (by omega) (by omega) (fun c_69 => ?_) (fun c_69 => ?_)
    · refine rn_iload_n dX8_isDone_78 rfl rfl ?_
      refine rn_bipush (v := nI 7) dX8_isDone_79 (by decide) ?_
      refine rn_icmp_neN (tgt := 90) dX8_isDone_81 (by decide) (by omega) (by omega) (fun c_81 => ?_) (fun c_81 => ?_)
      · exact absurd c_81 (by decide)
      · refine rn_aload_n dX8_isDone_84 rfl rfl ?_
        refine rn_bipush (v := nI 18) dX8_isDone_85 (by decide) ?_
        refine rn_callV0 (st := []) dX8_isDone_87 cf_8_193 (m_flipD hs (g := 18) (by decide) hO hD) (by omega) (sk_l hs 44 (by decide)) (sk_k44 hs) rfl rfl (Nat.le_of_ble_eq_true rfl) (fun r1 S1 I1 hq => ?_)
        obtain ⟨rfl, rfl, hD1, hF1⟩ := hq
        refine rn_iload_n dX8_isDone_90 rfl rfl ?_
        refine rn_bipush (v := nI 8) dX8_isDone_91 (by decide) ?_
        refine rn_icmp_neN (tgt := 109) dX8_isDone_93 (by decide) (by omega) (by omega) (fun c_93 => ?_) (fun c_93 => ?_)
        · refine rn_iload_n dX8_isDone_109 rfl rfl ?_
          refine rn_bipush (v := nI 9) dX8_isDone_110 (by decide) ?_
          refine rn_icmp_ltN (tgt := 124) dX8_isDone_112 (by decide) (by omega) (by omega) (fun c_112 => ?_) (fun c_112 => ?_)
          · refine rn_iconst (v := nI 1) dX8_isDone_124 (by decide) ?_
            refine rn_goto (tgt := 129) dX8_isDone_125 (by decide) ?_
            refine rn_ireturn dX8_isDone_129 rfl (by decide) ?_
            exact ⟨rfl, hF1, Or.inr ⟨_, rfl, rfl, hD1⟩⟩
          · exact absurd c_112 (by decide)
        · exact absurd c_93 (by decide)
    · exact absurd c_69 (by decide)
  · exact absurd c_2 (by decide)
set_option maxHeartbeats 1000000 in
set_option maxRecDepth 100000 in
theorem c_X8_isDone_8 {S : am_S} (hs : sk S) {I : am_I} {D : Dw} (hO : okD D) (hD : grD I 18 D) {u : Nat} (hu : u < 8) {n : Nat} (n1 : 1 ≤ n) (n8 : n ≤ 8) (hn : I 58 (3 * u) = nI n) : am_Mt 3 Y_X8_isDone (0, 0) [.ref 44, .int (nI u), .int (nI 8)] S I (OX S I (oRow n D)) := by
  rcases ho : oRow n D with _ | D8
  · refine am_mt ⟨by decide +kernel, rfl⟩ (Nat.le_of_ble_eq_true rfl) rfl ?_
    refine rn_iload_n dX8_isDone_0 rfl rfl ?_
    refine rn_iconst (v := nI 5) dX8_isDone_1 (by decide) ?_
    refine rn_icmp_neN (tgt := 66) dX8_isDone_2 (by decide) (by omega) (by omega) (fun c_2 => ?_) (fun c_2 => ?_)
    · refine rn_iload_n dX8_isDone_66 rfl rfl ?_
      refine rn_bipush (v := nI 6) dX8_isDone_67 (by decide) ?_
      refine rn_icmp_neN (tgt := 78) dX8_isDone_69 (by decide) (by omega) (by omega) (fun c_69 => ?_) (fun c_69 => ?_)
      · refine rn_iload_n dX8_isDone_78 rfl rfl ?_
        refine rn_bipush (v := nI 7) dX8_isDone_79 (by decide) ?_
        refine rn_icmp_neN (tgt := 90) dX8_isDone_81 (by decide) (by omega) (by omega) (fun c_81 => ?_) (fun c_81 => ?_)
        · refine rn_iload_n dX8_isDone_90 rfl rfl ?_
          refine rn_bipush (v := nI 8) dX8_isDone_91 (by decide) ?_
          refine rn_icmp_neN (tgt := 109) dX8_isDone_93 (by decide) (by omega) (by omega) (fun c_93 => ?_) (fun c_93 => ?_)
          · exact absurd c_93 (by decide)
          · refine rn_aload_n dX8_isDone_96 rfl rfl ?_
            refine rn_aload_n dX8_isDone_97 rfl rfl ?_
            refine rn_getR (r := 58) dX8_isDone_98 fd_8_58 (sk_l hs 44 (by decide)) (sk_k44 hs) rfl (sk_r44_24 hs) ?_
            refine rn_iconst (v := nI 3) dX8_isDone_101 (by decide) ?_
            refine rn_iload_n dX8_isDone_102 rfl rfl ?_
            refine rn_imul dX8_isDone_103 ?_
            refine rn_top (pk_mul _ _) ?_
            refine rn_ialoadN dX8_isDone_104 (sk_l hs 58 (by decide)) (sk_k58 hs) (by omega) (by omega) ?_
            refine rn_top (y := nI n) (hn) ?_
            refine rn_callV0 (st := []) dX8_isDone_105 cf_8_196 (c_X8_isRow hs hO hD n1 n8) (by omega) (sk_l hs 44 (by decide)) (sk_k44 hs) rfl rfl (Nat.le_of_ble_eq_true rfl) (fun r1 S1 I1 hq => ?_)
            have hq9 := hq
            obtain ⟨rfl, hF, h9⟩ := hq
            rw [ho] at h9
            obtain ⟨-, rfl⟩ | ⟨D9, h8, -⟩ := h9
            rotate_left
            · exact absurd h8 (by simp)
            refine rn_ireturn dX8_isDone_108 rfl (by decide) ?_
            rw [← ho]
            exact hq9
        · exact absurd c_81 (by decide)
      · exact absurd c_69 (by decide)
    · exact absurd c_2 (by decide)
  · refine am_mt ⟨by decide +kernel, rfl⟩ (Nat.le_of_ble_eq_true rfl) rfl ?_
    refine rn_iload_n dX8_isDone_0 rfl rfl ?_
    refine rn_iconst (v := nI 5) dX8_isDone_1 (by decide) ?_
    refine rn_icmp_neN (tgt := 66) dX8_isDone_2 (by decide) (by omega) (by omega) (fun c_2 => ?_) (fun c_2 => ?_)
    · refine rn_iload_n dX8_isDone_66 rfl rfl ?_
      refine rn_bipush (v := nI 6) dX8_isDone_67 (by decide) ?_
      refine rn_icmp_neN (tgt := 78) dX8_isDone_69 (by decide) (by omega) (by omega) (fun c_69 => ?_) (fun c_69 => ?_)
      · refine rn_iload_n dX8_isDone_78 rfl rfl ?_
        refine rn_bipush (v := nI 7) dX8_isDone_79 (by decide) ?_
        refine rn_icmp_neN (tgt := 90) dX8_isDone_81 (by decide) (by omega) (by omega) (fun c_81 => ?_) (fun c_81 => ?_)
        · refine rn_iload_n dX8_isDone_90 rfl rfl ?_
          refine rn_bipush (v := nI 8) dX8_isDone_91 (by decide) ?_
          refine rn_icmp_neN (tgt := 109) dX8_isDone_93 (by decide) (by omega) (by omega) (fun c_93 => ?_) (fun c_93 => ?_)
          · exact absurd c_93 (by decide)
          · refine rn_aload_n dX8_isDone_96 rfl rfl ?_
            refine rn_aload_n dX8_isDone_97 rfl rfl ?_
            refine rn_getR (r := 58) dX8_isDone_98 fd_8_58 (sk_l hs 44 (by decide)) (sk_k44 hs) rfl (sk_r44_24 hs) ?_
            refine rn_iconst (v := nI 3) dX8_isDone_101 (by decide) ?_
            refine rn_iload_n dX8_isDone_102 rfl rfl ?_
            refine rn_imul dX8_isDone_103 ?_
            refine rn_top (pk_mul _ _) ?_
            refine rn_ialoadN dX8_isDone_104 (sk_l hs 58 (by decide)) (sk_k58 hs) (by omega) (by omega) ?_
            refine rn_top (y := nI n) (hn) ?_
            refine rn_callV0 (st := []) dX8_isDone_105 cf_8_196 (c_X8_isRow hs hO hD n1 n8) (by omega) (sk_l hs 44 (by decide)) (sk_k44 hs) rfl rfl (Nat.le_of_ble_eq_true rfl) (fun r1 S1 I1 hq => ?_)
            have hq9 := hq
            obtain ⟨rfl, hF, h9⟩ := hq
            rw [ho] at h9
            obtain ⟨h8, -⟩ | ⟨D9, -, rfl, -⟩ := h9
            · exact absurd h8 (by simp)
            refine rn_ireturn dX8_isDone_108 rfl (by decide) ?_
            rw [← ho]
            exact hq9
        · exact absurd c_81 (by decide)
      · exact absurd c_69 (by decide)
    · exact absurd c_2 (by decide)
set_option maxHeartbeats 1000000 in
set_option maxRecDepth 100000 in
theorem c_X8_isDone_9 {S : am_S} (hs : sk S) {I : am_I} {D E : Dw} {u : Nat} (hu : u < 8) (hO : okD D) (hE : okD E) (hA : grD I (9 + u) D) (hH : grD I 18 E) : am_Mt 3 Y_X8_isDone (0, 0) [.ref 44, .int (nI u), .int (nI 9)] S I (OX S I (oBes D E)) := by
  rcases ho : oBes D E with _ | D8
  · refine am_mt ⟨by decide +kernel, rfl⟩ (Nat.le_of_ble_eq_true rfl) rfl ?_
    refine rn_iload_n dX8_isDone_0 rfl rfl ?_
    refine rn_iconst (v := nI 5) dX8_isDone_1 (by decide) ?_
    refine rn_icmp_neN (tgt := 66) dX8_isDone_2 (by decide) (by omega) (by omega) (fun c_2 => ?_) (fun c_2 => ?_)
    · refine rn_iload_n dX8_isDone_66 rfl rfl ?_
      refine rn_bipush (v := nI 6) dX8_isDone_67 (by decide) ?_
      refine rn_icmp_neN (tgt := 78) dX8_isDone_69 (by decide) (by omega) (by omega) (fun c_69 => ?_) (fun c_69 => ?_)
      · refine rn_iload_n dX8_isDone_78 rfl rfl ?_
        refine rn_bipush (v := nI 7) dX8_isDone_79 (by decide) ?_
        refine rn_icmp_neN (tgt := 90) dX8_isDone_81 (by decide) (by omega) (by omega) (fun c_81 => ?_) (fun c_81 => ?_)
        · refine rn_iload_n dX8_isDone_90 rfl rfl ?_
          refine rn_bipush (v := nI 8) dX8_isDone_91 (by decide) ?_
          refine rn_icmp_neN (tgt := 109) dX8_isDone_93 (by decide) (by omega) (by omega) (fun c_93 => ?_) (fun c_93 => ?_)
          · refine rn_iload_n dX8_isDone_109 rfl rfl ?_
            refine rn_bipush (v := nI 9) dX8_isDone_110 (by decide) ?_
            refine rn_icmp_ltN (tgt := 124) dX8_isDone_112 (by decide) (by omega) (by omega) (fun c_112 => ?_) (fun c_112 => ?_)
            · exact absurd c_112 (by decide)
            · refine rn_aload_n dX8_isDone_115 rfl rfl ?_
              refine rn_iload_n dX8_isDone_116 rfl rfl ?_
              refine rn_iload_n dX8_isDone_117 rfl rfl ?_
              refine rn_callV0 (st := []) dX8_isDone_118 cf_8_199 (c_X8_isPut_9 hs hu hO hE hA hH) (by omega) (sk_l hs 44 (by decide)) (sk_k44 hs) rfl rfl (Nat.le_of_ble_eq_true rfl) (fun r1 S1 I1 hq => ?_)
              have hq9 := hq
              obtain ⟨rfl, hF, h9⟩ := hq
              rw [ho] at h9
              obtain ⟨-, rfl⟩ | ⟨D9, h8, -⟩ := h9
              rotate_left
              · exact absurd h8 (by simp)
              refine rn_if_eqN (tgt := 128) dX8_isDone_121 (by decide) (by omega) (fun c_121 => ?_) (fun c_121 => ?_)
              · refine rn_iconst (v := nI 0) dX8_isDone_128 (by decide) ?_
                refine rn_ireturn dX8_isDone_129 rfl (by decide) ?_
                rw [← ho]
                exact hq9
              · exact absurd c_121 (by decide)
          · exact absurd c_93 (by decide)
        · exact absurd c_81 (by decide)
      · exact absurd c_69 (by decide)
    · exact absurd c_2 (by decide)
  · refine am_mt ⟨by decide +kernel, rfl⟩ (Nat.le_of_ble_eq_true rfl) rfl ?_
    refine rn_iload_n dX8_isDone_0 rfl rfl ?_
    refine rn_iconst (v := nI 5) dX8_isDone_1 (by decide) ?_
    refine rn_icmp_neN (tgt := 66) dX8_isDone_2 (by decide) (by omega) (by omega) (fun c_2 => ?_) (fun c_2 => ?_)
    · refine rn_iload_n dX8_isDone_66 rfl rfl ?_
      refine rn_bipush (v := nI 6) dX8_isDone_67 (by decide) ?_
      refine rn_icmp_neN (tgt := 78) dX8_isDone_69 (by decide) (by omega) (by omega) (fun c_69 => ?_) (fun c_69 => ?_)
      · refine rn_iload_n dX8_isDone_78 rfl rfl ?_
        refine rn_bipush (v := nI 7) dX8_isDone_79 (by decide) ?_
        refine rn_icmp_neN (tgt := 90) dX8_isDone_81 (by decide) (by omega) (by omega) (fun c_81 => ?_) (fun c_81 => ?_)
        · refine rn_iload_n dX8_isDone_90 rfl rfl ?_
          refine rn_bipush (v := nI 8) dX8_isDone_91 (by decide) ?_
          refine rn_icmp_neN (tgt := 109) dX8_isDone_93 (by decide) (by omega) (by omega) (fun c_93 => ?_) (fun c_93 => ?_)
          · refine rn_iload_n dX8_isDone_109 rfl rfl ?_
            refine rn_bipush (v := nI 9) dX8_isDone_110 (by decide) ?_
            refine rn_icmp_ltN (tgt := 124) dX8_isDone_112 (by decide) (by omega) (by omega) (fun c_112 => ?_) (fun c_112 => ?_)
            · exact absurd c_112 (by decide)
            · refine rn_aload_n dX8_isDone_115 rfl rfl ?_
              refine rn_iload_n dX8_isDone_116 rfl rfl ?_
              refine rn_iload_n dX8_isDone_117 rfl rfl ?_
              refine rn_callV0 (st := []) dX8_isDone_118 cf_8_199 (c_X8_isPut_9 hs hu hO hE hA hH) (by omega) (sk_l hs 44 (by decide)) (sk_k44 hs) rfl rfl (Nat.le_of_ble_eq_true rfl) (fun r1 S1 I1 hq => ?_)
              have hq9 := hq
              obtain ⟨rfl, hF, h9⟩ := hq
              rw [ho] at h9
              obtain ⟨h8, -⟩ | ⟨D9, -, rfl, -⟩ := h9
              · exact absurd h8 (by simp)
              refine rn_if_eqN (tgt := 128) dX8_isDone_121 (by decide) (by omega) (fun c_121 => ?_) (fun c_121 => ?_)
              · exact absurd c_121 (by decide)
              · refine rn_iconst (v := nI 1) dX8_isDone_124 (by decide) ?_
                refine rn_goto (tgt := 129) dX8_isDone_125 (by decide) ?_
                refine rn_ireturn dX8_isDone_129 rfl (by decide) ?_
                rw [← ho]
                exact hq9
          · exact absurd c_93 (by decide)
        · exact absurd c_81 (by decide)
      · exact absurd c_69 (by decide)
    · exact absurd c_2 (by decide)
set_option maxHeartbeats 1000000 in
set_option maxRecDepth 100000 in
theorem c_X8_isDone_10 {S : am_S} (hs : sk S) {I : am_I} {D E : Dw} {u : Nat} (hu : u < 8) (hO : okD D) (hE : okD E) (hA : grD I (9 + u) D) (hH : grD I 18 E) : am_Mt 3 Y_X8_isDone (0, 0) [.ref 44, .int (nI u), .int (nI 10)] S I (OX S I (oAbv D E)) := by
  rcases ho : oAbv D E with _ | D8
  · refine am_mt ⟨by decide +kernel, rfl⟩ (Nat.le_of_ble_eq_true rfl) rfl ?_
    refine rn_iload_n dX8_isDone_0 rfl rfl ?_
    refine rn_iconst (v := nI 5) dX8_isDone_1 (by decide) ?_
    refine rn_icmp_neN (tgt := 66) dX8_isDone_2 (by decide) (by omega) (by omega) (fun c_2 => ?_) (fun c_2 => ?_)
    · refine rn_iload_n dX8_isDone_66 rfl rfl ?_
      refine rn_bipush (v := nI 6) dX8_isDone_67 (by decide) ?_
      refine rn_icmp_neN (tgt := 78) dX8_isDone_69 (by decide) (by omega) (by omega) (fun c_69 => ?_) (fun c_69 => ?_)
      · refine rn_iload_n dX8_isDone_78 rfl rfl ?_
        refine rn_bipush (v := nI 7) dX8_isDone_79 (by decide) ?_
        refine rn_icmp_neN (tgt := 90) dX8_isDone_81 (by decide) (by omega) (by omega) (fun c_81 => ?_) (fun c_81 => ?_)
        · refine rn_iload_n dX8_isDone_90 rfl rfl ?_
          refine rn_bipush (v := nI 8) dX8_isDone_91 (by decide) ?_
          refine rn_icmp_neN (tgt := 109) dX8_isDone_93 (by decide) (by omega) (by omega) (fun c_93 => ?_) (fun c_93 => ?_)
          · refine rn_iload_n dX8_isDone_109 rfl rfl ?_
            refine rn_bipush (v := nI 9) dX8_isDone_110 (by decide) ?_
            refine rn_icmp_ltN (tgt := 124) dX8_isDone_112 (by decide) (by omega) (by omega) (fun c_112 => ?_) (fun c_112 => ?_)
            · exact absurd c_112 (by decide)
            · refine rn_aload_n dX8_isDone_115 rfl rfl ?_
              refine rn_iload_n dX8_isDone_116 rfl rfl ?_
              refine rn_iload_n dX8_isDone_117 rfl rfl ?_
              refine rn_callV0 (st := []) dX8_isDone_118 cf_8_199 (c_X8_isPut_10 hs hu hO hE hA hH) (by omega) (sk_l hs 44 (by decide)) (sk_k44 hs) rfl rfl (Nat.le_of_ble_eq_true rfl) (fun r1 S1 I1 hq => ?_)
              have hq9 := hq
              obtain ⟨rfl, hF, h9⟩ := hq
              rw [ho] at h9
              obtain ⟨-, rfl⟩ | ⟨D9, h8, -⟩ := h9
              rotate_left
              · exact absurd h8 (by simp)
              refine rn_if_eqN (tgt := 128) dX8_isDone_121 (by decide) (by omega) (fun c_121 => ?_) (fun c_121 => ?_)
              · refine rn_iconst (v := nI 0) dX8_isDone_128 (by decide) ?_
                refine rn_ireturn dX8_isDone_129 rfl (by decide) ?_
                rw [← ho]
                exact hq9
              · exact absurd c_121 (by decide)
          · exact absurd c_93 (by decide)
        · exact absurd c_81 (by decide)
      · exact absurd c_69 (by decide)
    · exact absurd c_2 (by decide)
  · refine am_mt ⟨by decide +kernel, rfl⟩ (Nat.le_of_ble_eq_true rfl) rfl ?_
    refine rn_iload_n dX8_isDone_0 rfl rfl ?_
    refine rn_iconst (v := nI 5) dX8_isDone_1 (by decide) ?_
    refine rn_icmp_neN (tgt := 66) dX8_isDone_2 (by decide) (by omega) (by omega) (fun c_2 => ?_) (fun c_2 => ?_)
    · refine rn_iload_n dX8_isDone_66 rfl rfl ?_
      refine rn_bipush (v := nI 6) dX8_isDone_67 (by decide) ?_
      refine rn_icmp_neN (tgt := 78) dX8_isDone_69 (by decide) (by omega) (by omega) (fun c_69 => ?_) (fun c_69 => ?_)
      · refine rn_iload_n dX8_isDone_78 rfl rfl ?_
        refine rn_bipush (v := nI 7) dX8_isDone_79 (by decide) ?_
        refine rn_icmp_neN (tgt := 90) dX8_isDone_81 (by decide) (by omega) (by omega) (fun c_81 => ?_) (fun c_81 => ?_)
        · refine rn_iload_n dX8_isDone_90 rfl rfl ?_
          refine rn_bipush (v := nI 8) dX8_isDone_91 (by decide) ?_
          refine rn_icmp_neN (tgt := 109) dX8_isDone_93 (by decide) (by omega) (by omega) (fun c_93 => ?_) (fun c_93 => ?_)
          · refine rn_iload_n dX8_isDone_109 rfl rfl ?_
            refine rn_bipush (v := nI 9) dX8_isDone_110 (by decide) ?_
            refine rn_icmp_ltN (tgt := 124) dX8_isDone_112 (by decide) (by omega) (by omega) (fun c_112 => ?_) (fun c_112 => ?_)
            · exact absurd c_112 (by decide)
            · refine rn_aload_n dX8_isDone_115 rfl rfl ?_
              refine rn_iload_n dX8_isDone_116 rfl rfl ?_
              refine rn_iload_n dX8_isDone_117 rfl rfl ?_
              refine rn_callV0 (st := []) dX8_isDone_118 cf_8_199 (c_X8_isPut_10 hs hu hO hE hA hH) (by omega) (sk_l hs 44 (by decide)) (sk_k44 hs) rfl rfl (Nat.le_of_ble_eq_true rfl) (fun r1 S1 I1 hq => ?_)
              have hq9 := hq
              obtain ⟨rfl, hF, h9⟩ := hq
              rw [ho] at h9
              obtain ⟨h8, -⟩ | ⟨D9, -, rfl, -⟩ := h9
              · exact absurd h8 (by simp)
              refine rn_if_eqN (tgt := 128) dX8_isDone_121 (by decide) (by omega) (fun c_121 => ?_) (fun c_121 => ?_)
              · exact absurd c_121 (by decide)
              · refine rn_iconst (v := nI 1) dX8_isDone_124 (by decide) ?_
                refine rn_goto (tgt := 129) dX8_isDone_125 (by decide) ?_
                refine rn_ireturn dX8_isDone_129 rfl (by decide) ?_
                rw [← ho]
                exact hq9
          · exact absurd c_93 (by decide)
        · exact absurd c_81 (by decide)
      · exact absurd c_69 (by decide)
    · exact absurd c_2 (by decide)
set_option maxHeartbeats 1000000 in
set_option maxRecDepth 100000 in
theorem c_X8_isDone_11 {S : am_S} (hs : sk S) {I : am_I} {D E : Dw} {u : Nat} (hu : u < 8) (hO : okD D) (hE : okD E) (hA : grD I (9 + u) D) (hH : grD I 18 E) : am_Mt 3 Y_X8_isDone (0, 0) [.ref 44, .int (nI u), .int (nI 11)] S I (OX S I (oOvr D E)) := by
  rcases ho : oOvr D E with _ | D8
  · refine am_mt ⟨by decide +kernel, rfl⟩ (Nat.le_of_ble_eq_true rfl) rfl ?_
    refine rn_iload_n dX8_isDone_0 rfl rfl ?_
    refine rn_iconst (v := nI 5) dX8_isDone_1 (by decide) ?_
    refine rn_icmp_neN (tgt := 66) dX8_isDone_2 (by decide) (by omega) (by omega) (fun c_2 => ?_) (fun c_2 => ?_)
    · refine rn_iload_n dX8_isDone_66 rfl rfl ?_
      refine rn_bipush (v := nI 6) dX8_isDone_67 (by decide) ?_
      refine rn_icmp_neN (tgt := 78) dX8_isDone_69 (by decide) (by omega) (by omega) (fun c_69 => ?_) (fun c_69 => ?_)
      · refine rn_iload_n dX8_isDone_78 rfl rfl ?_
        refine rn_bipush (v := nI 7) dX8_isDone_79 (by decide) ?_
        refine rn_icmp_neN (tgt := 90) dX8_isDone_81 (by decide) (by omega) (by omega) (fun c_81 => ?_) (fun c_81 => ?_)
        · refine rn_iload_n dX8_isDone_90 rfl rfl ?_
          refine rn_bipush (v := nI 8) dX8_isDone_91 (by decide) ?_
          refine rn_icmp_neN (tgt := 109) dX8_isDone_93 (by decide) (by omega) (by omega) (fun c_93 => ?_) (fun c_93 => ?_)
          · refine rn_iload_n dX8_isDone_109 rfl rfl ?_
            refine rn_bipush (v := nI 9) dX8_isDone_110 (by decide) ?_
            refine rn_icmp_ltN (tgt := 124) dX8_isDone_112 (by decide) (by omega) (by omega) (fun c_112 => ?_) (fun c_112 => ?_)
            · exact absurd c_112 (by decide)
            · refine rn_aload_n dX8_isDone_115 rfl rfl ?_
              refine rn_iload_n dX8_isDone_116 rfl rfl ?_
              refine rn_iload_n dX8_isDone_117 rfl rfl ?_
              refine rn_callV0 (st := []) dX8_isDone_118 cf_8_199 (c_X8_isPut_11 hs hu hO hE hA hH) (by omega) (sk_l hs 44 (by decide)) (sk_k44 hs) rfl rfl (Nat.le_of_ble_eq_true rfl) (fun r1 S1 I1 hq => ?_)
              have hq9 := hq
              obtain ⟨rfl, hF, h9⟩ := hq
              rw [ho] at h9
              obtain ⟨-, rfl⟩ | ⟨D9, h8, -⟩ := h9
              rotate_left
              · exact absurd h8 (by simp)
              refine rn_if_eqN (tgt := 128) dX8_isDone_121 (by decide) (by omega) (fun c_121 => ?_) (fun c_121 => ?_)
              · refine rn_iconst (v := nI 0) dX8_isDone_128 (by decide) ?_
                refine rn_ireturn dX8_isDone_129 rfl (by decide) ?_
                rw [← ho]
                exact hq9
              · exact absurd c_121 (by decide)
          · exact absurd c_93 (by decide)
        · exact absurd c_81 (by decide)
      · exact absurd c_69 (by decide)
    · exact absurd c_2 (by decide)
  · refine am_mt ⟨by decide +kernel, rfl⟩ (Nat.le_of_ble_eq_true rfl) rfl ?_
    refine rn_iload_n dX8_isDone_0 rfl rfl ?_
    refine rn_iconst (v := nI 5) dX8_isDone_1 (by decide) ?_
    refine rn_icmp_neN (tgt := 66) dX8_isDone_2 (by decide) (by omega) (by omega) (fun c_2 => ?_) (fun c_2 => ?_)
    · refine rn_iload_n dX8_isDone_66 rfl rfl ?_
      refine rn_bipush (v := nI 6) dX8_isDone_67 (by decide) ?_
      refine rn_icmp_neN (tgt := 78) dX8_isDone_69 (by decide) (by omega) (by omega) (fun c_69 => ?_) (fun c_69 => ?_)
      · refine rn_iload_n dX8_isDone_78 rfl rfl ?_
        refine rn_bipush (v := nI 7) dX8_isDone_79 (by decide) ?_
        refine rn_icmp_neN (tgt := 90) dX8_isDone_81 (by decide) (by omega) (by omega) (fun c_81 => ?_) (fun c_81 => ?_)
        · refine rn_iload_n dX8_isDone_90 rfl rfl ?_
          refine rn_bipush (v := nI 8) dX8_isDone_91 (by decide) ?_
          refine rn_icmp_neN (tgt := 109) dX8_isDone_93 (by decide) (by omega) (by omega) (fun c_93 => ?_) (fun c_93 => ?_)
          · refine rn_iload_n dX8_isDone_109 rfl rfl ?_
            refine rn_bipush (v := nI 9) dX8_isDone_110 (by decide) ?_
            refine rn_icmp_ltN (tgt := 124) dX8_isDone_112 (by decide) (by omega) (by omega) (fun c_112 => ?_) (fun c_112 => ?_)
            · exact absurd c_112 (by decide)
            · refine rn_aload_n dX8_isDone_115 rfl rfl ?_
              refine rn_iload_n dX8_isDone_116 rfl rfl ?_
              refine rn_iload_n dX8_isDone_117 rfl rfl ?_
              refine rn_callV0 (st := []) dX8_isDone_118 cf_8_199 (c_X8_isPut_11 hs hu hO hE hA hH) (by omega) (sk_l hs 44 (by decide)) (sk_k44 hs) rfl rfl (Nat.le_of_ble_eq_true rfl) (fun r1 S1 I1 hq => ?_)
              have hq9 := hq
              obtain ⟨rfl, hF, h9⟩ := hq
              rw [ho] at h9
              obtain ⟨h8, -⟩ | ⟨D9, -, rfl, -⟩ := h9
              · exact absurd h8 (by simp)
              refine rn_if_eqN (tgt := 128) dX8_isDone_121 (by decide) (by omega) (fun c_121 => ?_) (fun c_121 => ?_)
              · exact absurd c_121 (by decide)
              · refine rn_iconst (v := nI 1) dX8_isDone_124 (by decide) ?_
                refine rn_goto (tgt := 129) dX8_isDone_125 (by decide) ?_
                refine rn_ireturn dX8_isDone_129 rfl (by decide) ?_
                rw [← ho]
                exact hq9
          · exact absurd c_93 (by decide)
        · exact absurd c_81 (by decide)
      · exact absurd c_69 (by decide)
    · exact absurd c_2 (by decide)
