set_option maxHeartbeats 1000000 in
set_option maxRecDepth 100000 in
theorem c_X8_about {S : am_S} (hs : sk S) {I : am_I} {w h : Nat} (w1 : 1 ≤ w) (w8 : w ≤ 8) (h1 : 1 ≤ h) (h8 : h ≤ 8) {M P : Nat → Nat → Nat} (hok : okM w h M) (hP1 : ∀ i j, nInner w h i j = true → P i j ≤ 1) {n : Nat} {Sh : Nat → Option Dw} (hG : isGr I 0 w h M) (hPM : isPM w h P I) (hT : I 44 14 = nI n) (hS : ShM Sh I) (t : Int32) : am_Mt 2 Y_X8_about (0, 0) [.ref 44, .int t] S I (am_q (some (.int (vAb w h M P n Sh t))) S I) := by
  have L2 : ∀ j, j ≤ 17 → am_Rn 2 Y_X8_about (0, 0) 4 [some (.ref 44), some (.int (nI 2)), some (.int (nI (sumN (fun j => sumN (fun i => abF 2 w h M P i j) 17) j))), some (.int (nI j)), none, none] [] S I (am_q (some (.int (vAb w h M P n Sh (nI 2)))) S I) := by
    refine am_loop 17 (fun j hj ihj => ?_)
    by_cases hj17 : j < 17
    · have K108 : am_Rn 2 Y_X8_about (0, 0) 108 [some (.ref 44), some (.int (nI 2)), some (.int (nI ((sumN (fun j => sumN (fun i => abF 2 w h M P i j) 17) j) + sumN (fun i => abF 2 w h M P i j) 17))), some (.int (nI j)), none, none] [] S I (am_q (some (.int (vAb w h M P n Sh (nI 2)))) S I) := by
        refine rn_iinc (v := nI (j + 1)) (ls' := [some (.ref 44), some (.int (nI 2)), some (.int (nI ((sumN (fun j => sumN (fun i => abF 2 w h M P i j) 17) j) + sumN (fun i => abF 2 w h M P i j) 17))), some (.int (nI (j + 1))), none, none]) dX8_about_108 rfl (nI_add _ 1) (by decide) rfl rfl ?_
        refine rn_goto (tgt := 4) dX8_about_111 (by decide) ?_
        exact ihj (by omega)
      have LI : ∀ i, i ≤ 17 → am_Rn 2 Y_X8_about (0, 0) 24 [some (.ref 44), some (.int (nI 2)), some (.int (nI ((sumN (fun j => sumN (fun i => abF 2 w h M P i j) 17) j) + sumN (fun i => abF 2 w h M P i j) i))), some (.int (nI j)), some (.int (nI i)), none] [] S I (am_q (some (.int (vAb w h M P n Sh (nI 2)))) S I) := by
        refine am_loop 17 (fun i hi ihi => ?_)
        refine rn_iload dX8_about_24 rfl ?_
        refine rn_bipush (v := nI 17) dX8_about_26 (by decide) ?_
        refine rn_icmp_geN (tgt := 108) dX8_about_28 (by decide) (by omega) (by omega) (fun c_28 => ?_) (fun c_28 => ?_)
        · refine rn_ls (ls' := [some (.ref 44), some (.int (nI 2)), some (.int (nI ((sumN (fun j => sumN (fun i => abF 2 w h M P i j) 17) j) + sumN (fun i => abF 2 w h M P i j) i))), some (.int (nI j)), none, none]) rfl (fun i x h => by rcases i with _ | _ | _ | _ | _ | _ | i <;> first | exact h | (simp at h)) ?_
          obtain rfl : i = 17 := by omega
          exact K108
        · refine rn_aload_n dX8_about_31 rfl rfl ?_
          refine rn_getR (r := 47) dX8_about_32 fd_8_16 (sk_l hs 44 (by decide)) (sk_k44 hs) rfl (sk_r44_2 hs) ?_
          refine rn_iconst (v := nI 0) dX8_about_35 (by decide) ?_
          refine rn_iload dX8_about_36 rfl ?_
          refine rn_iload_n dX8_about_38 rfl rfl ?_
          refine rn_callSq (st := [.ref 47]) dX8_about_39 cf_8_77 (c_X8_cell S I _ _ _) (by omega) rfl rfl (Nat.le_of_ble_eq_true rfl) ?_
          refine rn_baloadN dX8_about_42 (sk_l hs 47 (by decide)) (sk_k47 hs) (by decide) (by omega) (by omega) ?_
          refine rn_top (y := nI (gv w h M i j)) (hG.2.2 i j (by omega) (by omega)) ?_
          refine rn_istore (ls' := [some (.ref 44), some (.int (nI 2)), some (.int (nI ((sumN (fun j => sumN (fun i => abF 2 w h M P i j) 17) j) + sumN (fun i => abF 2 w h M P i j) i))), some (.int (nI j)), some (.int (nI i)), some (.int (nI (gv w h M i j)))]) dX8_about_43 (by decide) rfl rfl ?_
          refine rn_iload_n dX8_about_45 rfl rfl ?_
          refine rn_aload_n dX8_about_46 rfl rfl ?_
          refine rn_iconst (v := nI 0) dX8_about_47 (by decide) ?_
          refine rn_iload dX8_about_48 rfl ?_
          refine rn_iload_n dX8_about_50 rfl rfl ?_
          refine rn_callVq (st := [.int (nI ((sumN (fun j => sumN (fun i => abF 2 w h M P i j) 17) j) + sumN (fun i => abF 2 w h M P i j) i))]) dX8_about_51 cf_8_74 (c_X8_isInner hs (g := 0) (by decide) hG.1 hG.2.1 w1 w8 h1 h8 _ _) (by omega) (sk_l hs 44 (by decide)) (sk_k44 hs) rfl rfl (Nat.le_of_ble_eq_true rfl) ?_
          refine rn_if_eqB (tgt := 99) dX8_about_54 (by decide) (fun c_54 => ?_) (fun c_54 => ?_)
          · refine rn_iconst (v := nI 0) dX8_about_99 (by decide) ?_
            refine rn_iadd dX8_about_100 ?_
            refine rn_top (nI_add _ _) ?_
            refine rn_top (y := nI ((sumN (fun j => sumN (fun i => abF 2 w h M P i j) 17) j) + sumN (fun i => abF 2 w h M P i j) (i + 1))) (by first | (rw [sumN, show abF 2 w h M P i j = 0 from if_neg (fun q => by rw [← pInner_nI (by omega) (by omega), c_54] at q; exact absurd q (by decide))]; rfl) | (rw [sumN, show abF 2 w h M P i j = 1 from (if_pos hin).trans (by first | rfl | (rw [if_neg (by decide), if_pos rfl, if_neg (by omega)]) | (rw [if_neg (by decide), if_neg (by decide), if_pos (by omega)]))]; rfl) | (rw [sumN, show abF 2 w h M P i j = 0 from (if_pos hin).trans (by first | (rw [if_neg (by decide), if_pos rfl, if_pos (by omega)]) | (rw [if_neg (by decide), if_neg (by decide), if_neg (by omega)]))]; rfl)) ?_
            refine rn_istore_n (ls' := [some (.ref 44), some (.int (nI 2)), some (.int (nI ((sumN (fun j => sumN (fun i => abF 2 w h M P i j) 17) j) + sumN (fun i => abF 2 w h M P i j) (i + 1)))), some (.int (nI j)), some (.int (nI i)), some (.int (nI (gv w h M i j)))]) dX8_about_101 rfl (by decide) rfl rfl ?_
            refine rn_iinc (v := nI (i + 1)) (ls' := [some (.ref 44), some (.int (nI 2)), some (.int (nI ((sumN (fun j => sumN (fun i => abF 2 w h M P i j) 17) j) + sumN (fun i => abF 2 w h M P i j) (i + 1)))), some (.int (nI j)), some (.int (nI (i + 1))), some (.int (nI (gv w h M i j)))]) dX8_about_102 rfl (nI_add _ 1) (by decide) rfl rfl ?_
            refine rn_goto (tgt := 24) dX8_about_105 (by decide) ?_
            refine rn_ls (ls' := [some (.ref 44), some (.int (nI 2)), some (.int (nI ((sumN (fun j => sumN (fun i => abF 2 w h M P i j) 17) j) + sumN (fun i => abF 2 w h M P i j) (i + 1)))), some (.int (nI j)), some (.int (nI (i + 1))), none]) rfl (fun i x h => by rcases i with _ | _ | _ | _ | _ | _ | i <;> first | exact h | (simp at h)) ?_
            exact ihi c_28
          · have hin : nInner w h i j = true := by rw [← pInner_nI (by omega) (by omega)]; exact c_54
            have egM : gv w h M i j = M i j := if_pos hin
            have egP : gv w h P i j = P i j := if_pos hin
            have hm2 := hok i j hin
            have hp1 := hP1 i j hin
            refine rn_iload_n dX8_about_57 rfl rfl ?_
            refine rn_iconst (v := nI 2) dX8_about_58 (by decide) ?_
            refine rn_icmp_eqN (tgt := 95) dX8_about_59 (by decide) (by omega) (by omega) (fun c_59 => ?_) (fun c_59 => ?_)
            · refine rn_iconst (v := nI 1) dX8_about_95 (by decide) ?_
              refine rn_goto (tgt := 100) dX8_about_96 (by decide) ?_
              refine rn_iadd dX8_about_100 ?_
              refine rn_top (nI_add _ _) ?_
              refine rn_top (y := nI ((sumN (fun j => sumN (fun i => abF 2 w h M P i j) 17) j) + sumN (fun i => abF 2 w h M P i j) (i + 1))) (by first | (rw [sumN, show abF 2 w h M P i j = 0 from if_neg (fun q => by rw [← pInner_nI (by omega) (by omega), c_54] at q; exact absurd q (by decide))]; rfl) | (rw [sumN, show abF 2 w h M P i j = 1 from (if_pos hin).trans (by first | rfl | (rw [if_neg (by decide), if_pos rfl, if_neg (by omega)]) | (rw [if_neg (by decide), if_neg (by decide), if_pos (by omega)]))]; rfl) | (rw [sumN, show abF 2 w h M P i j = 0 from (if_pos hin).trans (by first | (rw [if_neg (by decide), if_pos rfl, if_pos (by omega)]) | (rw [if_neg (by decide), if_neg (by decide), if_neg (by omega)]))]; rfl)) ?_
              refine rn_istore_n (ls' := [some (.ref 44), some (.int (nI 2)), some (.int (nI ((sumN (fun j => sumN (fun i => abF 2 w h M P i j) 17) j) + sumN (fun i => abF 2 w h M P i j) (i + 1)))), some (.int (nI j)), some (.int (nI i)), some (.int (nI (gv w h M i j)))]) dX8_about_101 rfl (by decide) rfl rfl ?_
              refine rn_iinc (v := nI (i + 1)) (ls' := [some (.ref 44), some (.int (nI 2)), some (.int (nI ((sumN (fun j => sumN (fun i => abF 2 w h M P i j) 17) j) + sumN (fun i => abF 2 w h M P i j) (i + 1)))), some (.int (nI j)), some (.int (nI (i + 1))), some (.int (nI (gv w h M i j)))]) dX8_about_102 rfl (nI_add _ 1) (by decide) rfl rfl ?_
              refine rn_goto (tgt := 24) dX8_about_105 (by decide) ?_
              refine rn_ls (ls' := [some (.ref 44), some (.int (nI 2)), some (.int (nI ((sumN (fun j => sumN (fun i => abF 2 w h M P i j) 17) j) + sumN (fun i => abF 2 w h M P i j) (i + 1)))), some (.int (nI j)), some (.int (nI (i + 1))), none]) rfl (fun i x h => by rcases i with _ | _ | _ | _ | _ | _ | i <;> first | exact h | (simp at h)) ?_
              exact ihi c_28
            · exact absurd c_59 (by decide)
      refine rn_iload_n dX8_about_4 rfl rfl ?_
      refine rn_bipush (v := nI 17) dX8_about_5 (by decide) ?_
      refine rn_icmp_geN (tgt := 114) dX8_about_7 (by decide) (by omega) (by omega) (fun c_7 => ?_) (fun c_7 => ?_)
      · omega
      · refine rn_iload_n dX8_about_10 rfl rfl ?_
        refine rn_iconst (v := nI 1) dX8_about_11 (by decide) ?_
        refine rn_icmp_leN (tgt := 114) dX8_about_12 (by decide) (by omega) (by omega) (fun c_12 => ?_) (fun c_12 => ?_)
        · exact absurd c_12 (by decide)
        · refine rn_iload_n dX8_about_15 rfl rfl ?_
          refine rn_bipush (v := nI 6) dX8_about_16 (by decide) ?_
          refine rn_icmp_geN (tgt := 114) dX8_about_18 (by decide) (by omega) (by omega) (fun c_18 => ?_) (fun c_18 => ?_)
          · exact absurd c_18 (by decide)
          · refine rn_iconst (v := nI 0) dX8_about_21 (by decide) ?_
            refine rn_istore (ls' := [some (.ref 44), some (.int (nI 2)), some (.int (nI (sumN (fun j => sumN (fun i => abF 2 w h M P i j) 17) j))), some (.int (nI j)), some (.int (nI 0)), none]) dX8_about_22 (by decide) rfl rfl ?_
            exact LI 0 (Nat.zero_le _)
    · skip
      refine rn_iload_n dX8_about_4 rfl rfl ?_
      refine rn_bipush (v := nI 17) dX8_about_5 (by decide) ?_
      refine rn_icmp_geN (tgt := 114) dX8_about_7 (by decide) (by omega) (by omega) (fun c_7 => ?_) (fun c_7 => ?_)
      · refine rn_iconst (v := nI 1) dX8_about_114 (by decide) ?_
        refine rn_istore_n (ls' := [some (.ref 44), some (.int (nI 2)), some (.int (nI (sumN (fun j => sumN (fun i => abF 2 w h M P i j) 17) j))), some (.int (nI 1)), none, none]) dX8_about_115 rfl (by decide) rfl rfl ?_
        refine rn_iload_n dX8_about_116 rfl rfl ?_
        refine rn_bipush (v := nI 8) dX8_about_117 (by decide) ?_
        refine rn_icmp_gtN (tgt := 151) dX8_about_119 (by decide) (by omega) (by omega) (fun c_119 => ?_) (fun c_119 => ?_)
        · exact absurd c_119 (by decide)
        · refine rn_iload_n dX8_about_122 rfl rfl ?_
          refine rn_bipush (v := nI 6) dX8_about_123 (by decide) ?_
          refine rn_icmp_neN (tgt := 151) dX8_about_125 (by decide) (by omega) (by omega) (fun c_125 => ?_) (fun c_125 => ?_)
          · refine rn_iload_n dX8_about_151 rfl rfl ?_
            refine rn_if_neN (tgt := 164) dX8_about_152 (by decide) (by omega) (fun c_152 => ?_) (fun c_152 => ?_)
            · refine rn_iload_n dX8_about_164 rfl rfl ?_
              refine rn_iconst (v := nI 1) dX8_about_165 (by decide) ?_
              refine rn_icmp_neN (tgt := 178) dX8_about_166 (by decide) (by omega) (by omega) (fun c_166 => ?_) (fun c_166 => ?_)
              · refine rn_iload_n dX8_about_178 rfl rfl ?_
                refine rn_iconst (v := nI 2) dX8_about_179 (by decide) ?_
                refine rn_bipush (v := nI 6) dX8_about_180 (by decide) ?_
                refine rn_callSq (st := []) dX8_about_182 cf_8_70 (m_isInN _ _ (by decide) (by decide) (by decide)) (by omega) rfl rfl (Nat.le_of_ble_eq_true rfl) ?_
                refine rn_if_eqB (tgt := 192) dX8_about_185 (by decide) (fun c_185 => ?_) (fun c_185 => ?_)
                · exact absurd c_185 (by decide)
                · refine rn_iload_n dX8_about_188 rfl rfl ?_
                  refine rn_goto (tgt := 219) dX8_about_189 (by decide) ?_
                  refine rn_ireturn dX8_about_219 rfl (vp_nar_int _) ?_
                  obtain rfl : j = 17 := by omega
                  exact ⟨by rw [vAb_2]; rfl, rfl, rfl⟩
              · exact absurd c_166 (by decide)
            · exact absurd c_152 (by decide)
          · exact absurd c_125 (by decide)
      · omega
  by_cases ht2 : t = nI 2
  · subst ht2
    refine am_mt ⟨by decide +kernel, rfl⟩ (Nat.le_of_ble_eq_true rfl) rfl ?_
    refine rn_iconst (v := nI 0) dX8_about_0 (by decide) ?_
    refine rn_istore_n (ls' := [some (.ref 44), some (.int (nI 2)), some (.int (nI 0)), none, none, none]) dX8_about_1 rfl (by decide) rfl rfl ?_
    refine rn_iconst (v := nI 0) dX8_about_2 (by decide) ?_
    refine rn_istore_n (ls' := [some (.ref 44), some (.int (nI 2)), some (.int (nI 0)), some (.int (nI 0)), none, none]) dX8_about_3 rfl (by decide) rfl rfl ?_
    exact L2 0 (Nat.zero_le _)
  have L3 : ∀ j, j ≤ 17 → am_Rn 2 Y_X8_about (0, 0) 4 [some (.ref 44), some (.int (nI 3)), some (.int (nI (sumN (fun j => sumN (fun i => abF 3 w h M P i j) 17) j))), some (.int (nI j)), none, none] [] S I (am_q (some (.int (vAb w h M P n Sh (nI 3)))) S I) := by
    refine am_loop 17 (fun j hj ihj => ?_)
    by_cases hj17 : j < 17
    · have K108 : am_Rn 2 Y_X8_about (0, 0) 108 [some (.ref 44), some (.int (nI 3)), some (.int (nI ((sumN (fun j => sumN (fun i => abF 3 w h M P i j) 17) j) + sumN (fun i => abF 3 w h M P i j) 17))), some (.int (nI j)), none, none] [] S I (am_q (some (.int (vAb w h M P n Sh (nI 3)))) S I) := by
        refine rn_iinc (v := nI (j + 1)) (ls' := [some (.ref 44), some (.int (nI 3)), some (.int (nI ((sumN (fun j => sumN (fun i => abF 3 w h M P i j) 17) j) + sumN (fun i => abF 3 w h M P i j) 17))), some (.int (nI (j + 1))), none, none]) dX8_about_108 rfl (nI_add _ 1) (by decide) rfl rfl ?_
        refine rn_goto (tgt := 4) dX8_about_111 (by decide) ?_
        exact ihj (by omega)
      have LI : ∀ i, i ≤ 17 → am_Rn 2 Y_X8_about (0, 0) 24 [some (.ref 44), some (.int (nI 3)), some (.int (nI ((sumN (fun j => sumN (fun i => abF 3 w h M P i j) 17) j) + sumN (fun i => abF 3 w h M P i j) i))), some (.int (nI j)), some (.int (nI i)), none] [] S I (am_q (some (.int (vAb w h M P n Sh (nI 3)))) S I) := by
        refine am_loop 17 (fun i hi ihi => ?_)
        refine rn_iload dX8_about_24 rfl ?_
        refine rn_bipush (v := nI 17) dX8_about_26 (by decide) ?_
        refine rn_icmp_geN (tgt := 108) dX8_about_28 (by decide) (by omega) (by omega) (fun c_28 => ?_) (fun c_28 => ?_)
        · refine rn_ls (ls' := [some (.ref 44), some (.int (nI 3)), some (.int (nI ((sumN (fun j => sumN (fun i => abF 3 w h M P i j) 17) j) + sumN (fun i => abF 3 w h M P i j) i))), some (.int (nI j)), none, none]) rfl (fun i x h => by rcases i with _ | _ | _ | _ | _ | _ | i <;> first | exact h | (simp at h)) ?_
          obtain rfl : i = 17 := by omega
          exact K108
        · refine rn_aload_n dX8_about_31 rfl rfl ?_
          refine rn_getR (r := 47) dX8_about_32 fd_8_16 (sk_l hs 44 (by decide)) (sk_k44 hs) rfl (sk_r44_2 hs) ?_
          refine rn_iconst (v := nI 0) dX8_about_35 (by decide) ?_
          refine rn_iload dX8_about_36 rfl ?_
          refine rn_iload_n dX8_about_38 rfl rfl ?_
          refine rn_callSq (st := [.ref 47]) dX8_about_39 cf_8_77 (c_X8_cell S I _ _ _) (by omega) rfl rfl (Nat.le_of_ble_eq_true rfl) ?_
          refine rn_baloadN dX8_about_42 (sk_l hs 47 (by decide)) (sk_k47 hs) (by decide) (by omega) (by omega) ?_
          refine rn_top (y := nI (gv w h M i j)) (hG.2.2 i j (by omega) (by omega)) ?_
          refine rn_istore (ls' := [some (.ref 44), some (.int (nI 3)), some (.int (nI ((sumN (fun j => sumN (fun i => abF 3 w h M P i j) 17) j) + sumN (fun i => abF 3 w h M P i j) i))), some (.int (nI j)), some (.int (nI i)), some (.int (nI (gv w h M i j)))]) dX8_about_43 (by decide) rfl rfl ?_
          refine rn_iload_n dX8_about_45 rfl rfl ?_
          refine rn_aload_n dX8_about_46 rfl rfl ?_
          refine rn_iconst (v := nI 0) dX8_about_47 (by decide) ?_
          refine rn_iload dX8_about_48 rfl ?_
          refine rn_iload_n dX8_about_50 rfl rfl ?_
          refine rn_callVq (st := [.int (nI ((sumN (fun j => sumN (fun i => abF 3 w h M P i j) 17) j) + sumN (fun i => abF 3 w h M P i j) i))]) dX8_about_51 cf_8_74 (c_X8_isInner hs (g := 0) (by decide) hG.1 hG.2.1 w1 w8 h1 h8 _ _) (by omega) (sk_l hs 44 (by decide)) (sk_k44 hs) rfl rfl (Nat.le_of_ble_eq_true rfl) ?_
          refine rn_if_eqB (tgt := 99) dX8_about_54 (by decide) (fun c_54 => ?_) (fun c_54 => ?_)
          · refine rn_iconst (v := nI 0) dX8_about_99 (by decide) ?_
            refine rn_iadd dX8_about_100 ?_
            refine rn_top (nI_add _ _) ?_
            refine rn_top (y := nI ((sumN (fun j => sumN (fun i => abF 3 w h M P i j) 17) j) + sumN (fun i => abF 3 w h M P i j) (i + 1))) (by first | (rw [sumN, show abF 3 w h M P i j = 0 from if_neg (fun q => by rw [← pInner_nI (by omega) (by omega), c_54] at q; exact absurd q (by decide))]; rfl) | (rw [sumN, show abF 3 w h M P i j = 1 from (if_pos hin).trans (by first | rfl | (rw [if_neg (by decide), if_pos rfl, if_neg (by omega)]) | (rw [if_neg (by decide), if_neg (by decide), if_pos (by omega)]))]; rfl) | (rw [sumN, show abF 3 w h M P i j = 0 from (if_pos hin).trans (by first | (rw [if_neg (by decide), if_pos rfl, if_pos (by omega)]) | (rw [if_neg (by decide), if_neg (by decide), if_neg (by omega)]))]; rfl)) ?_
            refine rn_istore_n (ls' := [some (.ref 44), some (.int (nI 3)), some (.int (nI ((sumN (fun j => sumN (fun i => abF 3 w h M P i j) 17) j) + sumN (fun i => abF 3 w h M P i j) (i + 1)))), some (.int (nI j)), some (.int (nI i)), some (.int (nI (gv w h M i j)))]) dX8_about_101 rfl (by decide) rfl rfl ?_
            refine rn_iinc (v := nI (i + 1)) (ls' := [some (.ref 44), some (.int (nI 3)), some (.int (nI ((sumN (fun j => sumN (fun i => abF 3 w h M P i j) 17) j) + sumN (fun i => abF 3 w h M P i j) (i + 1)))), some (.int (nI j)), some (.int (nI (i + 1))), some (.int (nI (gv w h M i j)))]) dX8_about_102 rfl (nI_add _ 1) (by decide) rfl rfl ?_
            refine rn_goto (tgt := 24) dX8_about_105 (by decide) ?_
            refine rn_ls (ls' := [some (.ref 44), some (.int (nI 3)), some (.int (nI ((sumN (fun j => sumN (fun i => abF 3 w h M P i j) 17) j) + sumN (fun i => abF 3 w h M P i j) (i + 1)))), some (.int (nI j)), some (.int (nI (i + 1))), none]) rfl (fun i x h => by rcases i with _ | _ | _ | _ | _ | _ | i <;> first | exact h | (simp at h)) ?_
            exact ihi c_28
          · have hin : nInner w h i j = true := by rw [← pInner_nI (by omega) (by omega)]; exact c_54
            have egM : gv w h M i j = M i j := if_pos hin
            have egP : gv w h P i j = P i j := if_pos hin
            have hm2 := hok i j hin
            have hp1 := hP1 i j hin
            refine rn_iload_n dX8_about_57 rfl rfl ?_
            refine rn_iconst (v := nI 2) dX8_about_58 (by decide) ?_
            refine rn_icmp_eqN (tgt := 95) dX8_about_59 (by decide) (by omega) (by omega) (fun c_59 => ?_) (fun c_59 => ?_)
            · exact absurd c_59 (by decide)
            · refine rn_iload_n dX8_about_62 rfl rfl ?_
              refine rn_iconst (v := nI 5) dX8_about_63 (by decide) ?_
              refine rn_icmp_neN (tgt := 82) dX8_about_64 (by decide) (by omega) (by omega) (fun c_64 => ?_) (fun c_64 => ?_)
              · refine rn_iload dX8_about_82 rfl ?_
                refine rn_iload_n dX8_about_84 rfl rfl ?_
                refine rn_iconst (v := nI 2) dX8_about_85 (by decide) ?_
                refine rn_isub dX8_about_86 ?_
                refine rn_top (pk_sub (by omega)) ?_
                refine rn_icmp_neN (tgt := 99) dX8_about_87 (by decide) (by omega) (by omega) (fun c_87 => ?_) (fun c_87 => ?_)
                · refine rn_iconst (v := nI 0) dX8_about_99 (by decide) ?_
                  refine rn_iadd dX8_about_100 ?_
                  refine rn_top (nI_add _ _) ?_
                  refine rn_top (y := nI ((sumN (fun j => sumN (fun i => abF 3 w h M P i j) 17) j) + sumN (fun i => abF 3 w h M P i j) (i + 1))) (by first | (rw [sumN, show abF 3 w h M P i j = 0 from if_neg (fun q => by rw [← pInner_nI (by omega) (by omega), c_54] at q; exact absurd q (by decide))]; rfl) | (rw [sumN, show abF 3 w h M P i j = 1 from (if_pos hin).trans (by first | rfl | (rw [if_neg (by decide), if_pos rfl, if_neg (by omega)]) | (rw [if_neg (by decide), if_neg (by decide), if_pos (by omega)]))]; rfl) | (rw [sumN, show abF 3 w h M P i j = 0 from (if_pos hin).trans (by first | (rw [if_neg (by decide), if_pos rfl, if_pos (by omega)]) | (rw [if_neg (by decide), if_neg (by decide), if_neg (by omega)]))]; rfl)) ?_
                  refine rn_istore_n (ls' := [some (.ref 44), some (.int (nI 3)), some (.int (nI ((sumN (fun j => sumN (fun i => abF 3 w h M P i j) 17) j) + sumN (fun i => abF 3 w h M P i j) (i + 1)))), some (.int (nI j)), some (.int (nI i)), some (.int (nI (gv w h M i j)))]) dX8_about_101 rfl (by decide) rfl rfl ?_
                  refine rn_iinc (v := nI (i + 1)) (ls' := [some (.ref 44), some (.int (nI 3)), some (.int (nI ((sumN (fun j => sumN (fun i => abF 3 w h M P i j) 17) j) + sumN (fun i => abF 3 w h M P i j) (i + 1)))), some (.int (nI j)), some (.int (nI (i + 1))), some (.int (nI (gv w h M i j)))]) dX8_about_102 rfl (nI_add _ 1) (by decide) rfl rfl ?_
                  refine rn_goto (tgt := 24) dX8_about_105 (by decide) ?_
                  refine rn_ls (ls' := [some (.ref 44), some (.int (nI 3)), some (.int (nI ((sumN (fun j => sumN (fun i => abF 3 w h M P i j) 17) j) + sumN (fun i => abF 3 w h M P i j) (i + 1)))), some (.int (nI j)), some (.int (nI (i + 1))), none]) rfl (fun i x h => by rcases i with _ | _ | _ | _ | _ | _ | i <;> first | exact h | (simp at h)) ?_
                  exact ihi c_28
                · refine rn_iload_n dX8_about_90 rfl rfl ?_
                  refine rn_iconst (v := nI 5) dX8_about_91 (by decide) ?_
                  refine rn_icmp_geN (tgt := 99) dX8_about_92 (by decide) (by omega) (by omega) (fun c_92 => ?_) (fun c_92 => ?_)
                  · exact absurd c_92 (by decide)
                  · refine rn_iconst (v := nI 1) dX8_about_95 (by decide) ?_
                    refine rn_goto (tgt := 100) dX8_about_96 (by decide) ?_
                    refine rn_iadd dX8_about_100 ?_
                    refine rn_top (nI_add _ _) ?_
                    refine rn_top (y := nI ((sumN (fun j => sumN (fun i => abF 3 w h M P i j) 17) j) + sumN (fun i => abF 3 w h M P i j) (i + 1))) (by first | (rw [sumN, show abF 3 w h M P i j = 0 from if_neg (fun q => by rw [← pInner_nI (by omega) (by omega), c_54] at q; exact absurd q (by decide))]; rfl) | (rw [sumN, show abF 3 w h M P i j = 1 from (if_pos hin).trans (by first | rfl | (rw [if_neg (by decide), if_pos rfl, if_neg (by omega)]) | (rw [if_neg (by decide), if_neg (by decide), if_pos (by omega)]))]; rfl) | (rw [sumN, show abF 3 w h M P i j = 0 from (if_pos hin).trans (by first | (rw [if_neg (by decide), if_pos rfl, if_pos (by omega)]) | (rw [if_neg (by decide), if_neg (by decide), if_neg (by omega)]))]; rfl)) ?_
                    refine rn_istore_n (ls' := [some (.ref 44), some (.int (nI 3)), some (.int (nI ((sumN (fun j => sumN (fun i => abF 3 w h M P i j) 17) j) + sumN (fun i => abF 3 w h M P i j) (i + 1)))), some (.int (nI j)), some (.int (nI i)), some (.int (nI (gv w h M i j)))]) dX8_about_101 rfl (by decide) rfl rfl ?_
                    refine rn_iinc (v := nI (i + 1)) (ls' := [some (.ref 44), some (.int (nI 3)), some (.int (nI ((sumN (fun j => sumN (fun i => abF 3 w h M P i j) 17) j) + sumN (fun i => abF 3 w h M P i j) (i + 1)))), some (.int (nI j)), some (.int (nI (i + 1))), some (.int (nI (gv w h M i j)))]) dX8_about_102 rfl (nI_add _ 1) (by decide) rfl rfl ?_
                    refine rn_goto (tgt := 24) dX8_about_105 (by decide) ?_
                    refine rn_ls (ls' := [some (.ref 44), some (.int (nI 3)), some (.int (nI ((sumN (fun j => sumN (fun i => abF 3 w h M P i j) 17) j) + sumN (fun i => abF 3 w h M P i j) (i + 1)))), some (.int (nI j)), some (.int (nI (i + 1))), none]) rfl (fun i x h => by rcases i with _ | _ | _ | _ | _ | _ | i <;> first | exact h | (simp at h)) ?_
                    exact ihi c_28
              · exact absurd c_64 (by decide)
      refine rn_iload_n dX8_about_4 rfl rfl ?_
      refine rn_bipush (v := nI 17) dX8_about_5 (by decide) ?_
      refine rn_icmp_geN (tgt := 114) dX8_about_7 (by decide) (by omega) (by omega) (fun c_7 => ?_) (fun c_7 => ?_)
      · omega
      · refine rn_iload_n dX8_about_10 rfl rfl ?_
        refine rn_iconst (v := nI 1) dX8_about_11 (by decide) ?_
        refine rn_icmp_leN (tgt := 114) dX8_about_12 (by decide) (by omega) (by omega) (fun c_12 => ?_) (fun c_12 => ?_)
        · exact absurd c_12 (by decide)
        · refine rn_iload_n dX8_about_15 rfl rfl ?_
          refine rn_bipush (v := nI 6) dX8_about_16 (by decide) ?_
          refine rn_icmp_geN (tgt := 114) dX8_about_18 (by decide) (by omega) (by omega) (fun c_18 => ?_) (fun c_18 => ?_)
          · exact absurd c_18 (by decide)
          · refine rn_iconst (v := nI 0) dX8_about_21 (by decide) ?_
            refine rn_istore (ls' := [some (.ref 44), some (.int (nI 3)), some (.int (nI (sumN (fun j => sumN (fun i => abF 3 w h M P i j) 17) j))), some (.int (nI j)), some (.int (nI 0)), none]) dX8_about_22 (by decide) rfl rfl ?_
            exact LI 0 (Nat.zero_le _)
    · skip
      refine rn_iload_n dX8_about_4 rfl rfl ?_
      refine rn_bipush (v := nI 17) dX8_about_5 (by decide) ?_
      refine rn_icmp_geN (tgt := 114) dX8_about_7 (by decide) (by omega) (by omega) (fun c_7 => ?_) (fun c_7 => ?_)
      · refine rn_iconst (v := nI 1) dX8_about_114 (by decide) ?_
        refine rn_istore_n (ls' := [some (.ref 44), some (.int (nI 3)), some (.int (nI (sumN (fun j => sumN (fun i => abF 3 w h M P i j) 17) j))), some (.int (nI 1)), none, none]) dX8_about_115 rfl (by decide) rfl rfl ?_
        refine rn_iload_n dX8_about_116 rfl rfl ?_
        refine rn_bipush (v := nI 8) dX8_about_117 (by decide) ?_
        refine rn_icmp_gtN (tgt := 151) dX8_about_119 (by decide) (by omega) (by omega) (fun c_119 => ?_) (fun c_119 => ?_)
        · exact absurd c_119 (by decide)
        · refine rn_iload_n dX8_about_122 rfl rfl ?_
          refine rn_bipush (v := nI 6) dX8_about_123 (by decide) ?_
          refine rn_icmp_neN (tgt := 151) dX8_about_125 (by decide) (by omega) (by omega) (fun c_125 => ?_) (fun c_125 => ?_)
          · refine rn_iload_n dX8_about_151 rfl rfl ?_
            refine rn_if_neN (tgt := 164) dX8_about_152 (by decide) (by omega) (fun c_152 => ?_) (fun c_152 => ?_)
            · refine rn_iload_n dX8_about_164 rfl rfl ?_
              refine rn_iconst (v := nI 1) dX8_about_165 (by decide) ?_
              refine rn_icmp_neN (tgt := 178) dX8_about_166 (by decide) (by omega) (by omega) (fun c_166 => ?_) (fun c_166 => ?_)
              · refine rn_iload_n dX8_about_178 rfl rfl ?_
                refine rn_iconst (v := nI 2) dX8_about_179 (by decide) ?_
                refine rn_bipush (v := nI 6) dX8_about_180 (by decide) ?_
                refine rn_callSq (st := []) dX8_about_182 cf_8_70 (m_isInN _ _ (by decide) (by decide) (by decide)) (by omega) rfl rfl (Nat.le_of_ble_eq_true rfl) ?_
                refine rn_if_eqB (tgt := 192) dX8_about_185 (by decide) (fun c_185 => ?_) (fun c_185 => ?_)
                · exact absurd c_185 (by decide)
                · refine rn_iload_n dX8_about_188 rfl rfl ?_
                  refine rn_goto (tgt := 219) dX8_about_189 (by decide) ?_
                  refine rn_ireturn dX8_about_219 rfl (vp_nar_int _) ?_
                  obtain rfl : j = 17 := by omega
                  exact ⟨by rw [vAb_3]; rfl, rfl, rfl⟩
              · exact absurd c_166 (by decide)
            · exact absurd c_152 (by decide)
          · exact absurd c_125 (by decide)
      · omega
  by_cases ht3 : t = nI 3
  · subst ht3
    refine am_mt ⟨by decide +kernel, rfl⟩ (Nat.le_of_ble_eq_true rfl) rfl ?_
    refine rn_iconst (v := nI 0) dX8_about_0 (by decide) ?_
    refine rn_istore_n (ls' := [some (.ref 44), some (.int (nI 3)), some (.int (nI 0)), none, none, none]) dX8_about_1 rfl (by decide) rfl rfl ?_
    refine rn_iconst (v := nI 0) dX8_about_2 (by decide) ?_
    refine rn_istore_n (ls' := [some (.ref 44), some (.int (nI 3)), some (.int (nI 0)), some (.int (nI 0)), none, none]) dX8_about_3 rfl (by decide) rfl rfl ?_
    exact L3 0 (Nat.zero_le _)
  have L4 : ∀ j, j ≤ 17 → am_Rn 2 Y_X8_about (0, 0) 4 [some (.ref 44), some (.int (nI 4)), some (.int (nI (sumN (fun j => sumN (fun i => abF 4 w h M P i j) 17) j))), some (.int (nI j)), none, none] [] S I (am_q (some (.int (vAb w h M P n Sh (nI 4)))) S I) := by
    refine am_loop 17 (fun j hj ihj => ?_)
    by_cases hj17 : j < 17
    · have K108 : am_Rn 2 Y_X8_about (0, 0) 108 [some (.ref 44), some (.int (nI 4)), some (.int (nI ((sumN (fun j => sumN (fun i => abF 4 w h M P i j) 17) j) + sumN (fun i => abF 4 w h M P i j) 17))), some (.int (nI j)), none, none] [] S I (am_q (some (.int (vAb w h M P n Sh (nI 4)))) S I) := by
        refine rn_iinc (v := nI (j + 1)) (ls' := [some (.ref 44), some (.int (nI 4)), some (.int (nI ((sumN (fun j => sumN (fun i => abF 4 w h M P i j) 17) j) + sumN (fun i => abF 4 w h M P i j) 17))), some (.int (nI (j + 1))), none, none]) dX8_about_108 rfl (nI_add _ 1) (by decide) rfl rfl ?_
        refine rn_goto (tgt := 4) dX8_about_111 (by decide) ?_
        exact ihj (by omega)
      have LI : ∀ i, i ≤ 17 → am_Rn 2 Y_X8_about (0, 0) 24 [some (.ref 44), some (.int (nI 4)), some (.int (nI ((sumN (fun j => sumN (fun i => abF 4 w h M P i j) 17) j) + sumN (fun i => abF 4 w h M P i j) i))), some (.int (nI j)), some (.int (nI i)), none] [] S I (am_q (some (.int (vAb w h M P n Sh (nI 4)))) S I) := by
        refine am_loop 17 (fun i hi ihi => ?_)
        refine rn_iload dX8_about_24 rfl ?_
        refine rn_bipush (v := nI 17) dX8_about_26 (by decide) ?_
        refine rn_icmp_geN (tgt := 108) dX8_about_28 (by decide) (by omega) (by omega) (fun c_28 => ?_) (fun c_28 => ?_)
        · refine rn_ls (ls' := [some (.ref 44), some (.int (nI 4)), some (.int (nI ((sumN (fun j => sumN (fun i => abF 4 w h M P i j) 17) j) + sumN (fun i => abF 4 w h M P i j) i))), some (.int (nI j)), none, none]) rfl (fun i x h => by rcases i with _ | _ | _ | _ | _ | _ | i <;> first | exact h | (simp at h)) ?_
          obtain rfl : i = 17 := by omega
          exact K108
        · refine rn_aload_n dX8_about_31 rfl rfl ?_
          refine rn_getR (r := 47) dX8_about_32 fd_8_16 (sk_l hs 44 (by decide)) (sk_k44 hs) rfl (sk_r44_2 hs) ?_
          refine rn_iconst (v := nI 0) dX8_about_35 (by decide) ?_
          refine rn_iload dX8_about_36 rfl ?_
          refine rn_iload_n dX8_about_38 rfl rfl ?_
          refine rn_callSq (st := [.ref 47]) dX8_about_39 cf_8_77 (c_X8_cell S I _ _ _) (by omega) rfl rfl (Nat.le_of_ble_eq_true rfl) ?_
          refine rn_baloadN dX8_about_42 (sk_l hs 47 (by decide)) (sk_k47 hs) (by decide) (by omega) (by omega) ?_
          refine rn_top (y := nI (gv w h M i j)) (hG.2.2 i j (by omega) (by omega)) ?_
          refine rn_istore (ls' := [some (.ref 44), some (.int (nI 4)), some (.int (nI ((sumN (fun j => sumN (fun i => abF 4 w h M P i j) 17) j) + sumN (fun i => abF 4 w h M P i j) i))), some (.int (nI j)), some (.int (nI i)), some (.int (nI (gv w h M i j)))]) dX8_about_43 (by decide) rfl rfl ?_
          refine rn_iload_n dX8_about_45 rfl rfl ?_
          refine rn_aload_n dX8_about_46 rfl rfl ?_
          refine rn_iconst (v := nI 0) dX8_about_47 (by decide) ?_
          refine rn_iload dX8_about_48 rfl ?_
          refine rn_iload_n dX8_about_50 rfl rfl ?_
          refine rn_callVq (st := [.int (nI ((sumN (fun j => sumN (fun i => abF 4 w h M P i j) 17) j) + sumN (fun i => abF 4 w h M P i j) i))]) dX8_about_51 cf_8_74 (c_X8_isInner hs (g := 0) (by decide) hG.1 hG.2.1 w1 w8 h1 h8 _ _) (by omega) (sk_l hs 44 (by decide)) (sk_k44 hs) rfl rfl (Nat.le_of_ble_eq_true rfl) ?_
          refine rn_if_eqB (tgt := 99) dX8_about_54 (by decide) (fun c_54 => ?_) (fun c_54 => ?_)
          · refine rn_iconst (v := nI 0) dX8_about_99 (by decide) ?_
            refine rn_iadd dX8_about_100 ?_
            refine rn_top (nI_add _ _) ?_
            refine rn_top (y := nI ((sumN (fun j => sumN (fun i => abF 4 w h M P i j) 17) j) + sumN (fun i => abF 4 w h M P i j) (i + 1))) (by first | (rw [sumN, show abF 4 w h M P i j = 0 from if_neg (fun q => by rw [← pInner_nI (by omega) (by omega), c_54] at q; exact absurd q (by decide))]; rfl) | (rw [sumN, show abF 4 w h M P i j = 1 from (if_pos hin).trans (by first | rfl | (rw [if_neg (by decide), if_pos rfl, if_neg (by omega)]) | (rw [if_neg (by decide), if_neg (by decide), if_pos (by omega)]))]; rfl) | (rw [sumN, show abF 4 w h M P i j = 0 from (if_pos hin).trans (by first | (rw [if_neg (by decide), if_pos rfl, if_pos (by omega)]) | (rw [if_neg (by decide), if_neg (by decide), if_neg (by omega)]))]; rfl)) ?_
            refine rn_istore_n (ls' := [some (.ref 44), some (.int (nI 4)), some (.int (nI ((sumN (fun j => sumN (fun i => abF 4 w h M P i j) 17) j) + sumN (fun i => abF 4 w h M P i j) (i + 1)))), some (.int (nI j)), some (.int (nI i)), some (.int (nI (gv w h M i j)))]) dX8_about_101 rfl (by decide) rfl rfl ?_
            refine rn_iinc (v := nI (i + 1)) (ls' := [some (.ref 44), some (.int (nI 4)), some (.int (nI ((sumN (fun j => sumN (fun i => abF 4 w h M P i j) 17) j) + sumN (fun i => abF 4 w h M P i j) (i + 1)))), some (.int (nI j)), some (.int (nI (i + 1))), some (.int (nI (gv w h M i j)))]) dX8_about_102 rfl (nI_add _ 1) (by decide) rfl rfl ?_
            refine rn_goto (tgt := 24) dX8_about_105 (by decide) ?_
            refine rn_ls (ls' := [some (.ref 44), some (.int (nI 4)), some (.int (nI ((sumN (fun j => sumN (fun i => abF 4 w h M P i j) 17) j) + sumN (fun i => abF 4 w h M P i j) (i + 1)))), some (.int (nI j)), some (.int (nI (i + 1))), none]) rfl (fun i x h => by rcases i with _ | _ | _ | _ | _ | _ | i <;> first | exact h | (simp at h)) ?_
            exact ihi c_28
          · have hin : nInner w h i j = true := by rw [← pInner_nI (by omega) (by omega)]; exact c_54
            have egM : gv w h M i j = M i j := if_pos hin
            have egP : gv w h P i j = P i j := if_pos hin
            have hm2 := hok i j hin
            have hp1 := hP1 i j hin
            refine rn_iload_n dX8_about_57 rfl rfl ?_
            refine rn_iconst (v := nI 2) dX8_about_58 (by decide) ?_
            refine rn_icmp_eqN (tgt := 95) dX8_about_59 (by decide) (by omega) (by omega) (fun c_59 => ?_) (fun c_59 => ?_)
            · exact absurd c_59 (by decide)
            · refine rn_iload_n dX8_about_62 rfl rfl ?_
              refine rn_iconst (v := nI 5) dX8_about_63 (by decide) ?_
              refine rn_icmp_neN (tgt := 82) dX8_about_64 (by decide) (by omega) (by omega) (fun c_64 => ?_) (fun c_64 => ?_)
              · refine rn_iload dX8_about_82 rfl ?_
                refine rn_iload_n dX8_about_84 rfl rfl ?_
                refine rn_iconst (v := nI 2) dX8_about_85 (by decide) ?_
                refine rn_isub dX8_about_86 ?_
                refine rn_top (pk_sub (by omega)) ?_
                refine rn_icmp_neN (tgt := 99) dX8_about_87 (by decide) (by omega) (by omega) (fun c_87 => ?_) (fun c_87 => ?_)
                · refine rn_iconst (v := nI 0) dX8_about_99 (by decide) ?_
                  refine rn_iadd dX8_about_100 ?_
                  refine rn_top (nI_add _ _) ?_
                  refine rn_top (y := nI ((sumN (fun j => sumN (fun i => abF 4 w h M P i j) 17) j) + sumN (fun i => abF 4 w h M P i j) (i + 1))) (by first | (rw [sumN, show abF 4 w h M P i j = 0 from if_neg (fun q => by rw [← pInner_nI (by omega) (by omega), c_54] at q; exact absurd q (by decide))]; rfl) | (rw [sumN, show abF 4 w h M P i j = 1 from (if_pos hin).trans (by first | rfl | (rw [if_neg (by decide), if_pos rfl, if_neg (by omega)]) | (rw [if_neg (by decide), if_neg (by decide), if_pos (by omega)]))]; rfl) | (rw [sumN, show abF 4 w h M P i j = 0 from (if_pos hin).trans (by first | (rw [if_neg (by decide), if_pos rfl, if_pos (by omega)]) | (rw [if_neg (by decide), if_neg (by decide), if_neg (by omega)]))]; rfl)) ?_
                  refine rn_istore_n (ls' := [some (.ref 44), some (.int (nI 4)), some (.int (nI ((sumN (fun j => sumN (fun i => abF 4 w h M P i j) 17) j) + sumN (fun i => abF 4 w h M P i j) (i + 1)))), some (.int (nI j)), some (.int (nI i)), some (.int (nI (gv w h M i j)))]) dX8_about_101 rfl (by decide) rfl rfl ?_
                  refine rn_iinc (v := nI (i + 1)) (ls' := [some (.ref 44), some (.int (nI 4)), some (.int (nI ((sumN (fun j => sumN (fun i => abF 4 w h M P i j) 17) j) + sumN (fun i => abF 4 w h M P i j) (i + 1)))), some (.int (nI j)), some (.int (nI (i + 1))), some (.int (nI (gv w h M i j)))]) dX8_about_102 rfl (nI_add _ 1) (by decide) rfl rfl ?_
                  refine rn_goto (tgt := 24) dX8_about_105 (by decide) ?_
                  refine rn_ls (ls' := [some (.ref 44), some (.int (nI 4)), some (.int (nI ((sumN (fun j => sumN (fun i => abF 4 w h M P i j) 17) j) + sumN (fun i => abF 4 w h M P i j) (i + 1)))), some (.int (nI j)), some (.int (nI (i + 1))), none]) rfl (fun i x h => by rcases i with _ | _ | _ | _ | _ | _ | i <;> first | exact h | (simp at h)) ?_
                  exact ihi c_28
                · refine rn_iload_n dX8_about_90 rfl rfl ?_
                  refine rn_iconst (v := nI 5) dX8_about_91 (by decide) ?_
                  refine rn_icmp_geN (tgt := 99) dX8_about_92 (by decide) (by omega) (by omega) (fun c_92 => ?_) (fun c_92 => ?_)
                  · exact absurd c_92 (by decide)
                  · refine rn_iconst (v := nI 1) dX8_about_95 (by decide) ?_
                    refine rn_goto (tgt := 100) dX8_about_96 (by decide) ?_
                    refine rn_iadd dX8_about_100 ?_
                    refine rn_top (nI_add _ _) ?_
                    refine rn_top (y := nI ((sumN (fun j => sumN (fun i => abF 4 w h M P i j) 17) j) + sumN (fun i => abF 4 w h M P i j) (i + 1))) (by first | (rw [sumN, show abF 4 w h M P i j = 0 from if_neg (fun q => by rw [← pInner_nI (by omega) (by omega), c_54] at q; exact absurd q (by decide))]; rfl) | (rw [sumN, show abF 4 w h M P i j = 1 from (if_pos hin).trans (by first | rfl | (rw [if_neg (by decide), if_pos rfl, if_neg (by omega)]) | (rw [if_neg (by decide), if_neg (by decide), if_pos (by omega)]))]; rfl) | (rw [sumN, show abF 4 w h M P i j = 0 from (if_pos hin).trans (by first | (rw [if_neg (by decide), if_pos rfl, if_pos (by omega)]) | (rw [if_neg (by decide), if_neg (by decide), if_neg (by omega)]))]; rfl)) ?_
                    refine rn_istore_n (ls' := [some (.ref 44), some (.int (nI 4)), some (.int (nI ((sumN (fun j => sumN (fun i => abF 4 w h M P i j) 17) j) + sumN (fun i => abF 4 w h M P i j) (i + 1)))), some (.int (nI j)), some (.int (nI i)), some (.int (nI (gv w h M i j)))]) dX8_about_101 rfl (by decide) rfl rfl ?_
                    refine rn_iinc (v := nI (i + 1)) (ls' := [some (.ref 44), some (.int (nI 4)), some (.int (nI ((sumN (fun j => sumN (fun i => abF 4 w h M P i j) 17) j) + sumN (fun i => abF 4 w h M P i j) (i + 1)))), some (.int (nI j)), some (.int (nI (i + 1))), some (.int (nI (gv w h M i j)))]) dX8_about_102 rfl (nI_add _ 1) (by decide) rfl rfl ?_
                    refine rn_goto (tgt := 24) dX8_about_105 (by decide) ?_
                    refine rn_ls (ls' := [some (.ref 44), some (.int (nI 4)), some (.int (nI ((sumN (fun j => sumN (fun i => abF 4 w h M P i j) 17) j) + sumN (fun i => abF 4 w h M P i j) (i + 1)))), some (.int (nI j)), some (.int (nI (i + 1))), none]) rfl (fun i x h => by rcases i with _ | _ | _ | _ | _ | _ | i <;> first | exact h | (simp at h)) ?_
                    exact ihi c_28
              · exact absurd c_64 (by decide)
      refine rn_iload_n dX8_about_4 rfl rfl ?_
      refine rn_bipush (v := nI 17) dX8_about_5 (by decide) ?_
      refine rn_icmp_geN (tgt := 114) dX8_about_7 (by decide) (by omega) (by omega) (fun c_7 => ?_) (fun c_7 => ?_)
      · omega
      · refine rn_iload_n dX8_about_10 rfl rfl ?_
        refine rn_iconst (v := nI 1) dX8_about_11 (by decide) ?_
        refine rn_icmp_leN (tgt := 114) dX8_about_12 (by decide) (by omega) (by omega) (fun c_12 => ?_) (fun c_12 => ?_)
        · exact absurd c_12 (by decide)
        · refine rn_iload_n dX8_about_15 rfl rfl ?_
          refine rn_bipush (v := nI 6) dX8_about_16 (by decide) ?_
          refine rn_icmp_geN (tgt := 114) dX8_about_18 (by decide) (by omega) (by omega) (fun c_18 => ?_) (fun c_18 => ?_)
          · exact absurd c_18 (by decide)
          · refine rn_iconst (v := nI 0) dX8_about_21 (by decide) ?_
            refine rn_istore (ls' := [some (.ref 44), some (.int (nI 4)), some (.int (nI (sumN (fun j => sumN (fun i => abF 4 w h M P i j) 17) j))), some (.int (nI j)), some (.int (nI 0)), none]) dX8_about_22 (by decide) rfl rfl ?_
            exact LI 0 (Nat.zero_le _)
    · skip
      refine rn_iload_n dX8_about_4 rfl rfl ?_
      refine rn_bipush (v := nI 17) dX8_about_5 (by decide) ?_
      refine rn_icmp_geN (tgt := 114) dX8_about_7 (by decide) (by omega) (by omega) (fun c_7 => ?_) (fun c_7 => ?_)
      · refine rn_iconst (v := nI 1) dX8_about_114 (by decide) ?_
        refine rn_istore_n (ls' := [some (.ref 44), some (.int (nI 4)), some (.int (nI (sumN (fun j => sumN (fun i => abF 4 w h M P i j) 17) j))), some (.int (nI 1)), none, none]) dX8_about_115 rfl (by decide) rfl rfl ?_
        refine rn_iload_n dX8_about_116 rfl rfl ?_
        refine rn_bipush (v := nI 8) dX8_about_117 (by decide) ?_
        refine rn_icmp_gtN (tgt := 151) dX8_about_119 (by decide) (by omega) (by omega) (fun c_119 => ?_) (fun c_119 => ?_)
        · exact absurd c_119 (by decide)
        · refine rn_iload_n dX8_about_122 rfl rfl ?_
          refine rn_bipush (v := nI 6) dX8_about_123 (by decide) ?_
          refine rn_icmp_neN (tgt := 151) dX8_about_125 (by decide) (by omega) (by omega) (fun c_125 => ?_) (fun c_125 => ?_)
          · refine rn_iload_n dX8_about_151 rfl rfl ?_
            refine rn_if_neN (tgt := 164) dX8_about_152 (by decide) (by omega) (fun c_152 => ?_) (fun c_152 => ?_)
            · refine rn_iload_n dX8_about_164 rfl rfl ?_
              refine rn_iconst (v := nI 1) dX8_about_165 (by decide) ?_
              refine rn_icmp_neN (tgt := 178) dX8_about_166 (by decide) (by omega) (by omega) (fun c_166 => ?_) (fun c_166 => ?_)
              · refine rn_iload_n dX8_about_178 rfl rfl ?_
                refine rn_iconst (v := nI 2) dX8_about_179 (by decide) ?_
                refine rn_bipush (v := nI 6) dX8_about_180 (by decide) ?_
                refine rn_callSq (st := []) dX8_about_182 cf_8_70 (m_isInN _ _ (by decide) (by decide) (by decide)) (by omega) rfl rfl (Nat.le_of_ble_eq_true rfl) ?_
                refine rn_if_eqB (tgt := 192) dX8_about_185 (by decide) (fun c_185 => ?_) (fun c_185 => ?_)
                · exact absurd c_185 (by decide)
                · refine rn_iload_n dX8_about_188 rfl rfl ?_
                  refine rn_goto (tgt := 219) dX8_about_189 (by decide) ?_
                  refine rn_ireturn dX8_about_219 rfl (vp_nar_int _) ?_
                  obtain rfl : j = 17 := by omega
                  exact ⟨by rw [vAb_4]; rfl, rfl, rfl⟩
              · exact absurd c_166 (by decide)
            · exact absurd c_152 (by decide)
          · exact absurd c_125 (by decide)
      · omega
  by_cases ht4 : t = nI 4
  · subst ht4
    refine am_mt ⟨by decide +kernel, rfl⟩ (Nat.le_of_ble_eq_true rfl) rfl ?_
    refine rn_iconst (v := nI 0) dX8_about_0 (by decide) ?_
    refine rn_istore_n (ls' := [some (.ref 44), some (.int (nI 4)), some (.int (nI 0)), none, none, none]) dX8_about_1 rfl (by decide) rfl rfl ?_
    refine rn_iconst (v := nI 0) dX8_about_2 (by decide) ?_
    refine rn_istore_n (ls' := [some (.ref 44), some (.int (nI 4)), some (.int (nI 0)), some (.int (nI 0)), none, none]) dX8_about_3 rfl (by decide) rfl rfl ?_
    exact L4 0 (Nat.zero_le _)
  have L5 : ∀ j, j ≤ 17 → am_Rn 2 Y_X8_about (0, 0) 4 [some (.ref 44), some (.int (nI 5)), some (.int (nI (sumN (fun j => sumN (fun i => abF 5 w h M P i j) 17) j))), some (.int (nI j)), none, none] [] S I (am_q (some (.int (vAb w h M P n Sh (nI 5)))) S I) := by
    refine am_loop 17 (fun j hj ihj => ?_)
    by_cases hj17 : j < 17
    · have K108 : am_Rn 2 Y_X8_about (0, 0) 108 [some (.ref 44), some (.int (nI 5)), some (.int (nI ((sumN (fun j => sumN (fun i => abF 5 w h M P i j) 17) j) + sumN (fun i => abF 5 w h M P i j) 17))), some (.int (nI j)), none, none] [] S I (am_q (some (.int (vAb w h M P n Sh (nI 5)))) S I) := by
        refine rn_iinc (v := nI (j + 1)) (ls' := [some (.ref 44), some (.int (nI 5)), some (.int (nI ((sumN (fun j => sumN (fun i => abF 5 w h M P i j) 17) j) + sumN (fun i => abF 5 w h M P i j) 17))), some (.int (nI (j + 1))), none, none]) dX8_about_108 rfl (nI_add _ 1) (by decide) rfl rfl ?_
        refine rn_goto (tgt := 4) dX8_about_111 (by decide) ?_
        exact ihj (by omega)
      have LI : ∀ i, i ≤ 17 → am_Rn 2 Y_X8_about (0, 0) 24 [some (.ref 44), some (.int (nI 5)), some (.int (nI ((sumN (fun j => sumN (fun i => abF 5 w h M P i j) 17) j) + sumN (fun i => abF 5 w h M P i j) i))), some (.int (nI j)), some (.int (nI i)), none] [] S I (am_q (some (.int (vAb w h M P n Sh (nI 5)))) S I) := by
        refine am_loop 17 (fun i hi ihi => ?_)
        refine rn_iload dX8_about_24 rfl ?_
        refine rn_bipush (v := nI 17) dX8_about_26 (by decide) ?_
        refine rn_icmp_geN (tgt := 108) dX8_about_28 (by decide) (by omega) (by omega) (fun c_28 => ?_) (fun c_28 => ?_)
        · refine rn_ls (ls' := [some (.ref 44), some (.int (nI 5)), some (.int (nI ((sumN (fun j => sumN (fun i => abF 5 w h M P i j) 17) j) + sumN (fun i => abF 5 w h M P i j) i))), some (.int (nI j)), none, none]) rfl (fun i x h => by rcases i with _ | _ | _ | _ | _ | _ | i <;> first | exact h | (simp at h)) ?_
          obtain rfl : i = 17 := by omega
          exact K108
        · refine rn_aload_n dX8_about_31 rfl rfl ?_
          refine rn_getR (r := 47) dX8_about_32 fd_8_16 (sk_l hs 44 (by decide)) (sk_k44 hs) rfl (sk_r44_2 hs) ?_
          refine rn_iconst (v := nI 0) dX8_about_35 (by decide) ?_
          refine rn_iload dX8_about_36 rfl ?_
          refine rn_iload_n dX8_about_38 rfl rfl ?_
          refine rn_callSq (st := [.ref 47]) dX8_about_39 cf_8_77 (c_X8_cell S I _ _ _) (by omega) rfl rfl (Nat.le_of_ble_eq_true rfl) ?_
          refine rn_baloadN dX8_about_42 (sk_l hs 47 (by decide)) (sk_k47 hs) (by decide) (by omega) (by omega) ?_
          refine rn_top (y := nI (gv w h M i j)) (hG.2.2 i j (by omega) (by omega)) ?_
          refine rn_istore (ls' := [some (.ref 44), some (.int (nI 5)), some (.int (nI ((sumN (fun j => sumN (fun i => abF 5 w h M P i j) 17) j) + sumN (fun i => abF 5 w h M P i j) i))), some (.int (nI j)), some (.int (nI i)), some (.int (nI (gv w h M i j)))]) dX8_about_43 (by decide) rfl rfl ?_
          refine rn_iload_n dX8_about_45 rfl rfl ?_
          refine rn_aload_n dX8_about_46 rfl rfl ?_
          refine rn_iconst (v := nI 0) dX8_about_47 (by decide) ?_
          refine rn_iload dX8_about_48 rfl ?_
          refine rn_iload_n dX8_about_50 rfl rfl ?_
          refine rn_callVq (st := [.int (nI ((sumN (fun j => sumN (fun i => abF 5 w h M P i j) 17) j) + sumN (fun i => abF 5 w h M P i j) i))]) dX8_about_51 cf_8_74 (c_X8_isInner hs (g := 0) (by decide) hG.1 hG.2.1 w1 w8 h1 h8 _ _) (by omega) (sk_l hs 44 (by decide)) (sk_k44 hs) rfl rfl (Nat.le_of_ble_eq_true rfl) ?_
          refine rn_if_eqB (tgt := 99) dX8_about_54 (by decide) (fun c_54 => ?_) (fun c_54 => ?_)
          · refine rn_iconst (v := nI 0) dX8_about_99 (by decide) ?_
            refine rn_iadd dX8_about_100 ?_
            refine rn_top (nI_add _ _) ?_
            refine rn_top (y := nI ((sumN (fun j => sumN (fun i => abF 5 w h M P i j) 17) j) + sumN (fun i => abF 5 w h M P i j) (i + 1))) (by first | (rw [sumN, show abF 5 w h M P i j = 0 from if_neg (fun q => by rw [← pInner_nI (by omega) (by omega), c_54] at q; exact absurd q (by decide))]; rfl) | (rw [sumN, show abF 5 w h M P i j = 1 from (if_pos hin).trans (by first | rfl | (rw [if_neg (by decide), if_pos rfl, if_neg (by omega)]) | (rw [if_neg (by decide), if_neg (by decide), if_pos (by omega)]))]; rfl) | (rw [sumN, show abF 5 w h M P i j = 0 from (if_pos hin).trans (by first | (rw [if_neg (by decide), if_pos rfl, if_pos (by omega)]) | (rw [if_neg (by decide), if_neg (by decide), if_neg (by omega)]))]; rfl)) ?_
            refine rn_istore_n (ls' := [some (.ref 44), some (.int (nI 5)), some (.int (nI ((sumN (fun j => sumN (fun i => abF 5 w h M P i j) 17) j) + sumN (fun i => abF 5 w h M P i j) (i + 1)))), some (.int (nI j)), some (.int (nI i)), some (.int (nI (gv w h M i j)))]) dX8_about_101 rfl (by decide) rfl rfl ?_
            refine rn_iinc (v := nI (i + 1)) (ls' := [some (.ref 44), some (.int (nI 5)), some (.int (nI ((sumN (fun j => sumN (fun i => abF 5 w h M P i j) 17) j) + sumN (fun i => abF 5 w h M P i j) (i + 1)))), some (.int (nI j)), some (.int (nI (i + 1))), some (.int (nI (gv w h M i j)))]) dX8_about_102 rfl (nI_add _ 1) (by decide) rfl rfl ?_
            refine rn_goto (tgt := 24) dX8_about_105 (by decide) ?_
            refine rn_ls (ls' := [some (.ref 44), some (.int (nI 5)), some (.int (nI ((sumN (fun j => sumN (fun i => abF 5 w h M P i j) 17) j) + sumN (fun i => abF 5 w h M P i j) (i + 1)))), some (.int (nI j)), some (.int (nI (i + 1))), none]) rfl (fun i x h => by rcases i with _ | _ | _ | _ | _ | _ | i <;> first | exact h | (simp at h)) ?_
            exact ihi c_28
          · have hin : nInner w h i j = true := by rw [← pInner_nI (by omega) (by omega)]; exact c_54
            have egM : gv w h M i j = M i j := if_pos hin
            have egP : gv w h P i j = P i j := if_pos hin
            have hm2 := hok i j hin
            have hp1 := hP1 i j hin
            refine rn_iload_n dX8_about_57 rfl rfl ?_
            refine rn_iconst (v := nI 2) dX8_about_58 (by decide) ?_
            refine rn_icmp_eqN (tgt := 95) dX8_about_59 (by decide) (by omega) (by omega) (fun c_59 => ?_) (fun c_59 => ?_)
            · exact absurd c_59 (by decide)
            · refine rn_iload_n dX8_about_62 rfl rfl ?_
              refine rn_iconst (v := nI 5) dX8_about_63 (by decide) ?_
              refine rn_icmp_neN (tgt := 82) dX8_about_64 (by decide) (by omega) (by omega) (fun c_64 => ?_) (fun c_64 => ?_)
              · exact absurd c_64 (by decide)
              · refine rn_aload_n dX8_about_67 rfl rfl ?_
                refine rn_getR (r := 48) dX8_about_68 fd_8_20 (sk_l hs 44 (by decide)) (sk_k44 hs) rfl (sk_r44_3 hs) ?_
                refine rn_iconst (v := nI 0) dX8_about_71 (by decide) ?_
                refine rn_iload dX8_about_72 rfl ?_
                refine rn_iload_n dX8_about_74 rfl rfl ?_
                refine rn_callSq (st := [.ref 48, .int (nI ((sumN (fun j => sumN (fun i => abF 5 w h M P i j) 17) j) + sumN (fun i => abF 5 w h M P i j) i))]) dX8_about_75 cf_8_77 (c_X8_cell S I _ _ _) (by omega) rfl rfl (Nat.le_of_ble_eq_true rfl) ?_
                refine rn_baloadN dX8_about_78 (sk_l hs 48 (by decide)) (sk_k48 hs) (by decide) (by omega) (by omega) ?_
                refine rn_top (y := nI (gv w h P i j)) (hPM i j (by omega) (by omega)) ?_
                refine rn_if_neN (tgt := 95) dX8_about_79 (by decide) (by omega) (fun c_79 => ?_) (fun c_79 => ?_)
                · refine rn_iconst (v := nI 1) dX8_about_95 (by decide) ?_
                  refine rn_goto (tgt := 100) dX8_about_96 (by decide) ?_
                  refine rn_iadd dX8_about_100 ?_
                  refine rn_top (nI_add _ _) ?_
                  refine rn_top (y := nI ((sumN (fun j => sumN (fun i => abF 5 w h M P i j) 17) j) + sumN (fun i => abF 5 w h M P i j) (i + 1))) (by first | (rw [sumN, show abF 5 w h M P i j = 0 from if_neg (fun q => by rw [← pInner_nI (by omega) (by omega), c_54] at q; exact absurd q (by decide))]; rfl) | (rw [sumN, show abF 5 w h M P i j = 1 from (if_pos hin).trans (by first | rfl | (rw [if_neg (by decide), if_pos rfl, if_neg (by omega)]) | (rw [if_neg (by decide), if_neg (by decide), if_pos (by omega)]))]; rfl) | (rw [sumN, show abF 5 w h M P i j = 0 from (if_pos hin).trans (by first | (rw [if_neg (by decide), if_pos rfl, if_pos (by omega)]) | (rw [if_neg (by decide), if_neg (by decide), if_neg (by omega)]))]; rfl)) ?_
                  refine rn_istore_n (ls' := [some (.ref 44), some (.int (nI 5)), some (.int (nI ((sumN (fun j => sumN (fun i => abF 5 w h M P i j) 17) j) + sumN (fun i => abF 5 w h M P i j) (i + 1)))), some (.int (nI j)), some (.int (nI i)), some (.int (nI (gv w h M i j)))]) dX8_about_101 rfl (by decide) rfl rfl ?_
                  refine rn_iinc (v := nI (i + 1)) (ls' := [some (.ref 44), some (.int (nI 5)), some (.int (nI ((sumN (fun j => sumN (fun i => abF 5 w h M P i j) 17) j) + sumN (fun i => abF 5 w h M P i j) (i + 1)))), some (.int (nI j)), some (.int (nI (i + 1))), some (.int (nI (gv w h M i j)))]) dX8_about_102 rfl (nI_add _ 1) (by decide) rfl rfl ?_
                  refine rn_goto (tgt := 24) dX8_about_105 (by decide) ?_
                  refine rn_ls (ls' := [some (.ref 44), some (.int (nI 5)), some (.int (nI ((sumN (fun j => sumN (fun i => abF 5 w h M P i j) 17) j) + sumN (fun i => abF 5 w h M P i j) (i + 1)))), some (.int (nI j)), some (.int (nI (i + 1))), none]) rfl (fun i x h => by rcases i with _ | _ | _ | _ | _ | _ | i <;> first | exact h | (simp at h)) ?_
                  exact ihi c_28
                · refine rn_iload dX8_about_82 rfl ?_
                  refine rn_iload_n dX8_about_84 rfl rfl ?_
                  refine rn_iconst (v := nI 2) dX8_about_85 (by decide) ?_
                  refine rn_isub dX8_about_86 ?_
                  refine rn_top (pk_sub (by omega)) ?_
                  refine rn_icmp_neN (tgt := 99) dX8_about_87 (by decide) (by omega) (by omega) (fun c_87 => ?_) (fun c_87 => ?_)
                  · refine rn_iconst (v := nI 0) dX8_about_99 (by decide) ?_
                    refine rn_iadd dX8_about_100 ?_
                    refine rn_top (nI_add _ _) ?_
                    refine rn_top (y := nI ((sumN (fun j => sumN (fun i => abF 5 w h M P i j) 17) j) + sumN (fun i => abF 5 w h M P i j) (i + 1))) (by first | (rw [sumN, show abF 5 w h M P i j = 0 from if_neg (fun q => by rw [← pInner_nI (by omega) (by omega), c_54] at q; exact absurd q (by decide))]; rfl) | (rw [sumN, show abF 5 w h M P i j = 1 from (if_pos hin).trans (by first | rfl | (rw [if_neg (by decide), if_pos rfl, if_neg (by omega)]) | (rw [if_neg (by decide), if_neg (by decide), if_pos (by omega)]))]; rfl) | (rw [sumN, show abF 5 w h M P i j = 0 from (if_pos hin).trans (by first | (rw [if_neg (by decide), if_pos rfl, if_pos (by omega)]) | (rw [if_neg (by decide), if_neg (by decide), if_neg (by omega)]))]; rfl)) ?_
                    refine rn_istore_n (ls' := [some (.ref 44), some (.int (nI 5)), some (.int (nI ((sumN (fun j => sumN (fun i => abF 5 w h M P i j) 17) j) + sumN (fun i => abF 5 w h M P i j) (i + 1)))), some (.int (nI j)), some (.int (nI i)), some (.int (nI (gv w h M i j)))]) dX8_about_101 rfl (by decide) rfl rfl ?_
                    refine rn_iinc (v := nI (i + 1)) (ls' := [some (.ref 44), some (.int (nI 5)), some (.int (nI ((sumN (fun j => sumN (fun i => abF 5 w h M P i j) 17) j) + sumN (fun i => abF 5 w h M P i j) (i + 1)))), some (.int (nI j)), some (.int (nI (i + 1))), some (.int (nI (gv w h M i j)))]) dX8_about_102 rfl (nI_add _ 1) (by decide) rfl rfl ?_
                    refine rn_goto (tgt := 24) dX8_about_105 (by decide) ?_
                    refine rn_ls (ls' := [some (.ref 44), some (.int (nI 5)), some (.int (nI ((sumN (fun j => sumN (fun i => abF 5 w h M P i j) 17) j) + sumN (fun i => abF 5 w h M P i j) (i + 1)))), some (.int (nI j)), some (.int (nI (i + 1))), none]) rfl (fun i x h => by rcases i with _ | _ | _ | _ | _ | _ | i <;> first | exact h | (simp at h)) ?_
                    exact ihi c_28
                  · omega
      refine rn_iload_n dX8_about_4 rfl rfl ?_
      refine rn_bipush (v := nI 17) dX8_about_5 (by decide) ?_
      refine rn_icmp_geN (tgt := 114) dX8_about_7 (by decide) (by omega) (by omega) (fun c_7 => ?_) (fun c_7 => ?_)
      · omega
      · refine rn_iload_n dX8_about_10 rfl rfl ?_
        refine rn_iconst (v := nI 1) dX8_about_11 (by decide) ?_
        refine rn_icmp_leN (tgt := 114) dX8_about_12 (by decide) (by omega) (by omega) (fun c_12 => ?_) (fun c_12 => ?_)
        · exact absurd c_12 (by decide)
        · refine rn_iload_n dX8_about_15 rfl rfl ?_
          refine rn_bipush (v := nI 6) dX8_about_16 (by decide) ?_
          refine rn_icmp_geN (tgt := 114) dX8_about_18 (by decide) (by omega) (by omega) (fun c_18 => ?_) (fun c_18 => ?_)
          · exact absurd c_18 (by decide)
          · refine rn_iconst (v := nI 0) dX8_about_21 (by decide) ?_
            refine rn_istore (ls' := [some (.ref 44), some (.int (nI 5)), some (.int (nI (sumN (fun j => sumN (fun i => abF 5 w h M P i j) 17) j))), some (.int (nI j)), some (.int (nI 0)), none]) dX8_about_22 (by decide) rfl rfl ?_
            exact LI 0 (Nat.zero_le _)
    · skip
      refine rn_iload_n dX8_about_4 rfl rfl ?_
      refine rn_bipush (v := nI 17) dX8_about_5 (by decide) ?_
      refine rn_icmp_geN (tgt := 114) dX8_about_7 (by decide) (by omega) (by omega) (fun c_7 => ?_) (fun c_7 => ?_)
      · refine rn_iconst (v := nI 1) dX8_about_114 (by decide) ?_
        refine rn_istore_n (ls' := [some (.ref 44), some (.int (nI 5)), some (.int (nI (sumN (fun j => sumN (fun i => abF 5 w h M P i j) 17) j))), some (.int (nI 1)), none, none]) dX8_about_115 rfl (by decide) rfl rfl ?_
        refine rn_iload_n dX8_about_116 rfl rfl ?_
        refine rn_bipush (v := nI 8) dX8_about_117 (by decide) ?_
        refine rn_icmp_gtN (tgt := 151) dX8_about_119 (by decide) (by omega) (by omega) (fun c_119 => ?_) (fun c_119 => ?_)
        · exact absurd c_119 (by decide)
        · refine rn_iload_n dX8_about_122 rfl rfl ?_
          refine rn_bipush (v := nI 6) dX8_about_123 (by decide) ?_
          refine rn_icmp_neN (tgt := 151) dX8_about_125 (by decide) (by omega) (by omega) (fun c_125 => ?_) (fun c_125 => ?_)
          · refine rn_iload_n dX8_about_151 rfl rfl ?_
            refine rn_if_neN (tgt := 164) dX8_about_152 (by decide) (by omega) (fun c_152 => ?_) (fun c_152 => ?_)
            · refine rn_iload_n dX8_about_164 rfl rfl ?_
              refine rn_iconst (v := nI 1) dX8_about_165 (by decide) ?_
              refine rn_icmp_neN (tgt := 178) dX8_about_166 (by decide) (by omega) (by omega) (fun c_166 => ?_) (fun c_166 => ?_)
              · refine rn_iload_n dX8_about_178 rfl rfl ?_
                refine rn_iconst (v := nI 2) dX8_about_179 (by decide) ?_
                refine rn_bipush (v := nI 6) dX8_about_180 (by decide) ?_
                refine rn_callSq (st := []) dX8_about_182 cf_8_70 (m_isInN _ _ (by decide) (by decide) (by decide)) (by omega) rfl rfl (Nat.le_of_ble_eq_true rfl) ?_
                refine rn_if_eqB (tgt := 192) dX8_about_185 (by decide) (fun c_185 => ?_) (fun c_185 => ?_)
                · exact absurd c_185 (by decide)
                · refine rn_iload_n dX8_about_188 rfl rfl ?_
                  refine rn_goto (tgt := 219) dX8_about_189 (by decide) ?_
                  refine rn_ireturn dX8_about_219 rfl (vp_nar_int _) ?_
                  obtain rfl : j = 17 := by omega
                  exact ⟨by rw [vAb_5]; rfl, rfl, rfl⟩
              · exact absurd c_166 (by decide)
            · exact absurd c_152 (by decide)
          · exact absurd c_125 (by decide)
      · omega
  by_cases ht5 : t = nI 5
  · subst ht5
    refine am_mt ⟨by decide +kernel, rfl⟩ (Nat.le_of_ble_eq_true rfl) rfl ?_
    refine rn_iconst (v := nI 0) dX8_about_0 (by decide) ?_
    refine rn_istore_n (ls' := [some (.ref 44), some (.int (nI 5)), some (.int (nI 0)), none, none, none]) dX8_about_1 rfl (by decide) rfl rfl ?_
    refine rn_iconst (v := nI 0) dX8_about_2 (by decide) ?_
    refine rn_istore_n (ls' := [some (.ref 44), some (.int (nI 5)), some (.int (nI 0)), some (.int (nI 0)), none, none]) dX8_about_3 rfl (by decide) rfl rfl ?_
    exact L5 0 (Nat.zero_le _)
  have L6 : ∀ k, k ≤ 8 → am_Rn 2 Y_X8_about (0, 0) 116 [some (.ref 44), some (.int (nI 6)), some (.int (nI (shN Sh (k)))), some (.int (nI (1 + (k)))), none, none] [] S I (am_q (some (.int (vAb w h M P n Sh (nI 6)))) S I) := by
    refine am_loop 8 (fun k hk ih => ?_)
    have hsl := shN_le Sh k
    by_cases hk8 : k < 8
    · rcases hS.1 k hk8 with ⟨h6, h7⟩ | ⟨D, h7, h6⟩
      · refine rn_iload_n dX8_about_116 rfl rfl ?_
        refine rn_bipush (v := nI 8) dX8_about_117 (by decide) ?_
        refine rn_icmp_gtN (tgt := 151) dX8_about_119 (by decide) (by omega) (by omega) (fun c_119 => ?_) (fun c_119 => ?_)
        · omega
        · refine rn_iload_n dX8_about_122 rfl rfl ?_
          refine rn_bipush (v := nI 6) dX8_about_123 (by decide) ?_
          refine rn_icmp_neN (tgt := 151) dX8_about_125 (by decide) (by omega) (by omega) (fun c_125 => ?_) (fun c_125 => ?_)
          · exact absurd c_125 (by decide)
          · refine rn_iload_n dX8_about_128 rfl rfl ?_
            refine rn_aload_n dX8_about_129 rfl rfl ?_
            refine rn_getR (r := 45) dX8_about_130 fd_8_7 (sk_l hs 44 (by decide)) (sk_k44 hs) rfl (sk_r44_0 hs) ?_
            refine rn_iload_n dX8_about_133 rfl rfl ?_
            refine rn_ialoadN dX8_about_134 (sk_l hs 45 (by decide)) (sk_k45 hs) (by omega) (by omega) ?_
            refine rn_top (y := nI 0) (h6) ?_
            refine rn_if_leN (tgt := 142) dX8_about_135 (by decide) (by omega) (fun c_135 => ?_) (fun c_135 => ?_)
            · refine rn_iconst (v := nI 0) dX8_about_142 (by decide) ?_
              refine rn_iadd dX8_about_143 ?_
              refine rn_top (nI_add _ _) ?_
              refine rn_top (y := nI (shN Sh (k + 1))) (congrArg nI (shN_n h7).symm) ?_
              refine rn_istore_n (ls' := [some (.ref 44), some (.int (nI 6)), some (.int (nI (shN Sh (k + 1)))), some (.int (nI (1 + (k)))), none, none]) dX8_about_144 rfl (by decide) rfl rfl ?_
              refine rn_iinc (v := nI (1 + (k + 1))) (ls' := [some (.ref 44), some (.int (nI 6)), some (.int (nI (shN Sh (k + 1)))), some (.int (nI (1 + (k + 1)))), none, none]) dX8_about_145 rfl (nI_add _ 1) (by decide) rfl rfl ?_
              refine rn_goto (tgt := 116) dX8_about_148 (by decide) ?_
              exact ih hk8
            · exact absurd c_135 (by decide)
      · refine rn_iload_n dX8_about_116 rfl rfl ?_
        refine rn_bipush (v := nI 8) dX8_about_117 (by decide) ?_
        refine rn_icmp_gtN (tgt := 151) dX8_about_119 (by decide) (by omega) (by omega) (fun c_119 => ?_) (fun c_119 => ?_)
        · omega
        · refine rn_iload_n dX8_about_122 rfl rfl ?_
          refine rn_bipush (v := nI 6) dX8_about_123 (by decide) ?_
          refine rn_icmp_neN (tgt := 151) dX8_about_125 (by decide) (by omega) (by omega) (fun c_125 => ?_) (fun c_125 => ?_)
          · exact absurd c_125 (by decide)
          · have hD1 := (hS.2 k D h7).1
            refine rn_iload_n dX8_about_128 rfl rfl ?_
            refine rn_aload_n dX8_about_129 rfl rfl ?_
            refine rn_getR (r := 45) dX8_about_130 fd_8_7 (sk_l hs 44 (by decide)) (sk_k44 hs) rfl (sk_r44_0 hs) ?_
            refine rn_iload_n dX8_about_133 rfl rfl ?_
            refine rn_ialoadN dX8_about_134 (sk_l hs 45 (by decide)) (sk_k45 hs) (by omega) (by omega) ?_
            refine rn_top (y := nI D.1) (h6.1) ?_
            refine rn_if_leN (tgt := 142) dX8_about_135 (by decide) (by omega) (fun c_135 => ?_) (fun c_135 => ?_)
            · omega
            · refine rn_iconst (v := nI 1) dX8_about_138 (by decide) ?_
              refine rn_goto (tgt := 143) dX8_about_139 (by decide) ?_
              refine rn_iadd dX8_about_143 ?_
              refine rn_top (nI_add _ _) ?_
              refine rn_top (y := nI (shN Sh (k + 1))) (congrArg nI (shN_y h7).symm) ?_
              refine rn_istore_n (ls' := [some (.ref 44), some (.int (nI 6)), some (.int (nI (shN Sh (k + 1)))), some (.int (nI (1 + (k)))), none, none]) dX8_about_144 rfl (by decide) rfl rfl ?_
              refine rn_iinc (v := nI (1 + (k + 1))) (ls' := [some (.ref 44), some (.int (nI 6)), some (.int (nI (shN Sh (k + 1)))), some (.int (nI (1 + (k + 1)))), none, none]) dX8_about_145 rfl (nI_add _ 1) (by decide) rfl rfl ?_
              refine rn_goto (tgt := 116) dX8_about_148 (by decide) ?_
              exact ih hk8
    · refine rn_iload_n dX8_about_116 rfl rfl ?_
      refine rn_bipush (v := nI 8) dX8_about_117 (by decide) ?_
      refine rn_icmp_gtN (tgt := 151) dX8_about_119 (by decide) (by omega) (by omega) (fun c_119 => ?_) (fun c_119 => ?_)
      · refine rn_iload_n dX8_about_151 rfl rfl ?_
        refine rn_if_neN (tgt := 164) dX8_about_152 (by decide) (by omega) (fun c_152 => ?_) (fun c_152 => ?_)
        · refine rn_iload_n dX8_about_164 rfl rfl ?_
          refine rn_iconst (v := nI 1) dX8_about_165 (by decide) ?_
          refine rn_icmp_neN (tgt := 178) dX8_about_166 (by decide) (by omega) (by omega) (fun c_166 => ?_) (fun c_166 => ?_)
          · refine rn_iload_n dX8_about_178 rfl rfl ?_
            refine rn_iconst (v := nI 2) dX8_about_179 (by decide) ?_
            refine rn_bipush (v := nI 6) dX8_about_180 (by decide) ?_
            refine rn_callSq (st := []) dX8_about_182 cf_8_70 (m_isInN _ _ (by decide) (by decide) (by decide)) (by omega) rfl rfl (Nat.le_of_ble_eq_true rfl) ?_
            refine rn_if_eqB (tgt := 192) dX8_about_185 (by decide) (fun c_185 => ?_) (fun c_185 => ?_)
            · exact absurd c_185 (by decide)
            · refine rn_iload_n dX8_about_188 rfl rfl ?_
              refine rn_goto (tgt := 219) dX8_about_189 (by decide) ?_
              refine rn_ireturn dX8_about_219 rfl (vp_nar_int _) ?_
              obtain rfl : k = 8 := by omega
              exact ⟨by rw [vAb_6], rfl, rfl⟩
          · exact absurd c_166 (by decide)
        · exact absurd c_152 (by decide)
      · omega
  by_cases ht6 : t = nI 6
  · subst ht6
    refine am_mt ⟨by decide +kernel, rfl⟩ (Nat.le_of_ble_eq_true rfl) rfl ?_
    refine rn_iconst (v := nI 0) dX8_about_0 (by decide) ?_
    refine rn_istore_n (ls' := [some (.ref 44), some (.int (nI 6)), some (.int (nI 0)), none, none, none]) dX8_about_1 rfl (by decide) rfl rfl ?_
    refine rn_iconst (v := nI 0) dX8_about_2 (by decide) ?_
    refine rn_istore_n (ls' := [some (.ref 44), some (.int (nI 6)), some (.int (nI 0)), some (.int (nI 0)), none, none]) dX8_about_3 rfl (by decide) rfl rfl ?_
    refine rn_iload_n dX8_about_4 rfl rfl ?_
    refine rn_bipush (v := nI 17) dX8_about_5 (by decide) ?_
    refine rn_icmp_geN (tgt := 114) dX8_about_7 (by decide) (by omega) (by omega) (fun c_7 => ?_) (fun c_7 => ?_)
    · exact absurd c_7 (by decide)
    · refine rn_iload_n dX8_about_10 rfl rfl ?_
      refine rn_iconst (v := nI 1) dX8_about_11 (by decide) ?_
      refine rn_icmp_leN (tgt := 114) dX8_about_12 (by decide) (by omega) (by omega) (fun c_12 => ?_) (fun c_12 => ?_)
      · exact absurd c_12 (by decide)
      · refine rn_iload_n dX8_about_15 rfl rfl ?_
        refine rn_bipush (v := nI 6) dX8_about_16 (by decide) ?_
        refine rn_icmp_geN (tgt := 114) dX8_about_18 (by decide) (by omega) (by omega) (fun c_18 => ?_) (fun c_18 => ?_)
        · refine rn_iconst (v := nI 1) dX8_about_114 (by decide) ?_
          refine rn_istore_n (ls' := [some (.ref 44), some (.int (nI 6)), some (.int (nI 0)), some (.int (nI 1)), none, none]) dX8_about_115 rfl (by decide) rfl rfl ?_
          exact L6 0 (Nat.zero_le _)
        · exact absurd c_18 (by decide)
  by_cases ht0 : t = nI 0
  · subst ht0
    refine am_mt ⟨by decide +kernel, rfl⟩ (Nat.le_of_ble_eq_true rfl) rfl ?_
    refine rn_iconst (v := nI 0) dX8_about_0 (by decide) ?_
    refine rn_istore_n (ls' := [some (.ref 44), some (.int (nI 0)), some (.int (nI 0)), none, none, none]) dX8_about_1 rfl (by decide) rfl rfl ?_
    refine rn_iconst (v := nI 0) dX8_about_2 (by decide) ?_
    refine rn_istore_n (ls' := [some (.ref 44), some (.int (nI 0)), some (.int (nI 0)), some (.int (nI 0)), none, none]) dX8_about_3 rfl (by decide) rfl rfl ?_
    refine rn_iload_n dX8_about_4 rfl rfl ?_
    refine rn_bipush (v := nI 17) dX8_about_5 (by decide) ?_
    refine rn_icmp_geN (tgt := 114) dX8_about_7 (by decide) (by omega) (by omega) (fun c_7 => ?_) (fun c_7 => ?_)
    · exact absurd c_7 (by decide)
    · refine rn_iload_n dX8_about_10 rfl rfl ?_
      refine rn_iconst (v := nI 1) dX8_about_11 (by decide) ?_
      refine rn_icmp_leN (tgt := 114) dX8_about_12 (by decide) (by omega) (by omega) (fun c_12 => ?_) (fun c_12 => ?_)
      · refine rn_iconst (v := nI 1) dX8_about_114 (by decide) ?_
        refine rn_istore_n (ls' := [some (.ref 44), some (.int (nI 0)), some (.int (nI 0)), some (.int (nI 1)), none, none]) dX8_about_115 rfl (by decide) rfl rfl ?_
        refine rn_iload_n dX8_about_116 rfl rfl ?_
        refine rn_bipush (v := nI 8) dX8_about_117 (by decide) ?_
        refine rn_icmp_gtN (tgt := 151) dX8_about_119 (by decide) (by omega) (by omega) (fun c_119 => ?_) (fun c_119 => ?_)
        · exact absurd c_119 (by decide)
        · refine rn_iload_n dX8_about_122 rfl rfl ?_
          refine rn_bipush (v := nI 6) dX8_about_123 (by decide) ?_
          refine rn_icmp_neN (tgt := 151) dX8_about_125 (by decide) (by omega) (by omega) (fun c_125 => ?_) (fun c_125 => ?_)
          · refine rn_iload_n dX8_about_151 rfl rfl ?_
            refine rn_if_neN (tgt := 164) dX8_about_152 (by decide) (by omega) (fun c_152 => ?_) (fun c_152 => ?_)
            · exact absurd c_152 (by decide)
            · refine rn_aload_n dX8_about_155 rfl rfl ?_
              refine rn_getR (r := 45) dX8_about_156 fd_8_7 (sk_l hs 44 (by decide)) (sk_k44 hs) rfl (sk_r44_0 hs) ?_
              refine rn_iconst (v := nI 0) dX8_about_159 (by decide) ?_
              refine rn_ialoadN dX8_about_160 (sk_l hs 45 (by decide)) (sk_k45 hs) (by omega) (by omega) ?_
              refine rn_top (y := nI w) (hG.1) ?_
              refine rn_goto (tgt := 219) dX8_about_161 (by decide) ?_
              refine rn_ireturn dX8_about_219 rfl (vp_nar_int _) ?_
              exact ⟨by rw [vAb_0], rfl, rfl⟩
          · exact absurd c_125 (by decide)
      · exact absurd c_12 (by decide)
  by_cases ht1 : t = nI 1
  · subst ht1
    refine am_mt ⟨by decide +kernel, rfl⟩ (Nat.le_of_ble_eq_true rfl) rfl ?_
    refine rn_iconst (v := nI 0) dX8_about_0 (by decide) ?_
    refine rn_istore_n (ls' := [some (.ref 44), some (.int (nI 1)), some (.int (nI 0)), none, none, none]) dX8_about_1 rfl (by decide) rfl rfl ?_
    refine rn_iconst (v := nI 0) dX8_about_2 (by decide) ?_
    refine rn_istore_n (ls' := [some (.ref 44), some (.int (nI 1)), some (.int (nI 0)), some (.int (nI 0)), none, none]) dX8_about_3 rfl (by decide) rfl rfl ?_
    refine rn_iload_n dX8_about_4 rfl rfl ?_
    refine rn_bipush (v := nI 17) dX8_about_5 (by decide) ?_
    refine rn_icmp_geN (tgt := 114) dX8_about_7 (by decide) (by omega) (by omega) (fun c_7 => ?_) (fun c_7 => ?_)
    · exact absurd c_7 (by decide)
    · refine rn_iload_n dX8_about_10 rfl rfl ?_
      refine rn_iconst (v := nI 1) dX8_about_11 (by decide) ?_
      refine rn_icmp_leN (tgt := 114) dX8_about_12 (by decide) (by omega) (by omega) (fun c_12 => ?_) (fun c_12 => ?_)
      · refine rn_iconst (v := nI 1) dX8_about_114 (by decide) ?_
        refine rn_istore_n (ls' := [some (.ref 44), some (.int (nI 1)), some (.int (nI 0)), some (.int (nI 1)), none, none]) dX8_about_115 rfl (by decide) rfl rfl ?_
        refine rn_iload_n dX8_about_116 rfl rfl ?_
        refine rn_bipush (v := nI 8) dX8_about_117 (by decide) ?_
        refine rn_icmp_gtN (tgt := 151) dX8_about_119 (by decide) (by omega) (by omega) (fun c_119 => ?_) (fun c_119 => ?_)
        · exact absurd c_119 (by decide)
        · refine rn_iload_n dX8_about_122 rfl rfl ?_
          refine rn_bipush (v := nI 6) dX8_about_123 (by decide) ?_
          refine rn_icmp_neN (tgt := 151) dX8_about_125 (by decide) (by omega) (by omega) (fun c_125 => ?_) (fun c_125 => ?_)
          · refine rn_iload_n dX8_about_151 rfl rfl ?_
            refine rn_if_neN (tgt := 164) dX8_about_152 (by decide) (by omega) (fun c_152 => ?_) (fun c_152 => ?_)
            · refine rn_iload_n dX8_about_164 rfl rfl ?_
              refine rn_iconst (v := nI 1) dX8_about_165 (by decide) ?_
              refine rn_icmp_neN (tgt := 178) dX8_about_166 (by decide) (by omega) (by omega) (fun c_166 => ?_) (fun c_166 => ?_)
              · exact absurd c_166 (by decide)
              · refine rn_aload_n dX8_about_169 rfl rfl ?_
                refine rn_getR (r := 46) dX8_about_170 fd_8_13 (sk_l hs 44 (by decide)) (sk_k44 hs) rfl (sk_r44_1 hs) ?_
                refine rn_iconst (v := nI 0) dX8_about_173 (by decide) ?_
                refine rn_ialoadN dX8_about_174 (sk_l hs 46 (by decide)) (sk_k46 hs) (by omega) (by omega) ?_
                refine rn_top (y := nI h) (hG.2.1) ?_
                refine rn_goto (tgt := 219) dX8_about_175 (by decide) ?_
                refine rn_ireturn dX8_about_219 rfl (vp_nar_int _) ?_
                exact ⟨by rw [vAb_1], rfl, rfl⟩
            · exact absurd c_152 (by decide)
          · exact absurd c_125 (by decide)
      · exact absurd c_12 (by decide)
  by_cases ht7 : t = nI 7
  · subst ht7
    refine am_mt ⟨by decide +kernel, rfl⟩ (Nat.le_of_ble_eq_true rfl) rfl ?_
    refine rn_iconst (v := nI 0) dX8_about_0 (by decide) ?_
    refine rn_istore_n (ls' := [some (.ref 44), some (.int (nI 7)), some (.int (nI 0)), none, none, none]) dX8_about_1 rfl (by decide) rfl rfl ?_
    refine rn_iconst (v := nI 0) dX8_about_2 (by decide) ?_
    refine rn_istore_n (ls' := [some (.ref 44), some (.int (nI 7)), some (.int (nI 0)), some (.int (nI 0)), none, none]) dX8_about_3 rfl (by decide) rfl rfl ?_
    refine rn_iload_n dX8_about_4 rfl rfl ?_
    refine rn_bipush (v := nI 17) dX8_about_5 (by decide) ?_
    refine rn_icmp_geN (tgt := 114) dX8_about_7 (by decide) (by omega) (by omega) (fun c_7 => ?_) (fun c_7 => ?_)
    · exact absurd c_7 (by decide)
    · refine rn_iload_n dX8_about_10 rfl rfl ?_
      refine rn_iconst (v := nI 1) dX8_about_11 (by decide) ?_
      refine rn_icmp_leN (tgt := 114) dX8_about_12 (by decide) (by omega) (by omega) (fun c_12 => ?_) (fun c_12 => ?_)
      · exact absurd c_12 (by decide)
      · refine rn_iload_n dX8_about_15 rfl rfl ?_
        refine rn_bipush (v := nI 6) dX8_about_16 (by decide) ?_
        refine rn_icmp_geN (tgt := 114) dX8_about_18 (by decide) (by omega) (by omega) (fun c_18 => ?_) (fun c_18 => ?_)
        · refine rn_iconst (v := nI 1) dX8_about_114 (by decide) ?_
          refine rn_istore_n (ls' := [some (.ref 44), some (.int (nI 7)), some (.int (nI 0)), some (.int (nI 1)), none, none]) dX8_about_115 rfl (by decide) rfl rfl ?_
          refine rn_iload_n dX8_about_116 rfl rfl ?_
          refine rn_bipush (v := nI 8) dX8_about_117 (by decide) ?_
          refine rn_icmp_gtN (tgt := 151) dX8_about_119 (by decide) (by omega) (by omega) (fun c_119 => ?_) (fun c_119 => ?_)
          · exact absurd c_119 (by decide)
          · refine rn_iload_n dX8_about_122 rfl rfl ?_
            refine rn_bipush (v := nI 6) dX8_about_123 (by decide) ?_
            refine rn_icmp_neN (tgt := 151) dX8_about_125 (by decide) (by omega) (by omega) (fun c_125 => ?_) (fun c_125 => ?_)
            · refine rn_iload_n dX8_about_151 rfl rfl ?_
              refine rn_if_neN (tgt := 164) dX8_about_152 (by decide) (by omega) (fun c_152 => ?_) (fun c_152 => ?_)
              · refine rn_iload_n dX8_about_164 rfl rfl ?_
                refine rn_iconst (v := nI 1) dX8_about_165 (by decide) ?_
                refine rn_icmp_neN (tgt := 178) dX8_about_166 (by decide) (by omega) (by omega) (fun c_166 => ?_) (fun c_166 => ?_)
                · refine rn_iload_n dX8_about_178 rfl rfl ?_
                  refine rn_iconst (v := nI 2) dX8_about_179 (by decide) ?_
                  refine rn_bipush (v := nI 6) dX8_about_180 (by decide) ?_
                  refine rn_callSq (st := []) dX8_about_182 cf_8_70 (m_isInN _ _ (by decide) (by decide) (by decide)) (by omega) rfl rfl (Nat.le_of_ble_eq_true rfl) ?_
                  refine rn_if_eqB (tgt := 192) dX8_about_185 (by decide) (fun c_185 => ?_) (fun c_185 => ?_)
                  · refine rn_iload_n dX8_about_192 rfl rfl ?_
                    refine rn_bipush (v := nI 7) dX8_about_193 (by decide) ?_
                    refine rn_icmp_neN (tgt := 205) dX8_about_195 (by decide) (by omega) (by omega) (fun c_195 => ?_) (fun c_195 => ?_)
                    · exact absurd c_195 (by decide)
                    · refine rn_aload_n dX8_about_198 rfl rfl ?_
                      refine rn_getI dX8_about_199 fd_8_121 (sk_l hs 44 (by decide)) (sk_k44 hs) rfl ?_
                      refine rn_top (y := nI n) (hT) ?_
                      refine rn_goto (tgt := 219) dX8_about_202 (by decide) ?_
                      refine rn_ireturn dX8_about_219 rfl (vp_nar_int _) ?_
                      exact ⟨by rw [vAb_7], rfl, rfl⟩
                  · exact absurd c_185 (by decide)
                · exact absurd c_166 (by decide)
              · exact absurd c_152 (by decide)
            · exact absurd c_125 (by decide)
        · exact absurd c_18 (by decide)
  by_cases ht8 : t = nI 8
  · subst ht8
    refine am_mt ⟨by decide +kernel, rfl⟩ (Nat.le_of_ble_eq_true rfl) rfl ?_
    refine rn_iconst (v := nI 0) dX8_about_0 (by decide) ?_
    refine rn_istore_n (ls' := [some (.ref 44), some (.int (nI 8)), some (.int (nI 0)), none, none, none]) dX8_about_1 rfl (by decide) rfl rfl ?_
    refine rn_iconst (v := nI 0) dX8_about_2 (by decide) ?_
    refine rn_istore_n (ls' := [some (.ref 44), some (.int (nI 8)), some (.int (nI 0)), some (.int (nI 0)), none, none]) dX8_about_3 rfl (by decide) rfl rfl ?_
    refine rn_iload_n dX8_about_4 rfl rfl ?_
    refine rn_bipush (v := nI 17) dX8_about_5 (by decide) ?_
    refine rn_icmp_geN (tgt := 114) dX8_about_7 (by decide) (by omega) (by omega) (fun c_7 => ?_) (fun c_7 => ?_)
    · exact absurd c_7 (by decide)
    · refine rn_iload_n dX8_about_10 rfl rfl ?_
      refine rn_iconst (v := nI 1) dX8_about_11 (by decide) ?_
      refine rn_icmp_leN (tgt := 114) dX8_about_12 (by decide) (by omega) (by omega) (fun c_12 => ?_) (fun c_12 => ?_)
      · exact absurd c_12 (by decide)
      · refine rn_iload_n dX8_about_15 rfl rfl ?_
        refine rn_bipush (v := nI 6) dX8_about_16 (by decide) ?_
        refine rn_icmp_geN (tgt := 114) dX8_about_18 (by decide) (by omega) (by omega) (fun c_18 => ?_) (fun c_18 => ?_)
        · refine rn_iconst (v := nI 1) dX8_about_114 (by decide) ?_
          refine rn_istore_n (ls' := [some (.ref 44), some (.int (nI 8)), some (.int (nI 0)), some (.int (nI 1)), none, none]) dX8_about_115 rfl (by decide) rfl rfl ?_
          refine rn_iload_n dX8_about_116 rfl rfl ?_
          refine rn_bipush (v := nI 8) dX8_about_117 (by decide) ?_
          refine rn_icmp_gtN (tgt := 151) dX8_about_119 (by decide) (by omega) (by omega) (fun c_119 => ?_) (fun c_119 => ?_)
          · exact absurd c_119 (by decide)
          · refine rn_iload_n dX8_about_122 rfl rfl ?_
            refine rn_bipush (v := nI 6) dX8_about_123 (by decide) ?_
            refine rn_icmp_neN (tgt := 151) dX8_about_125 (by decide) (by omega) (by omega) (fun c_125 => ?_) (fun c_125 => ?_)
            · refine rn_iload_n dX8_about_151 rfl rfl ?_
              refine rn_if_neN (tgt := 164) dX8_about_152 (by decide) (by omega) (fun c_152 => ?_) (fun c_152 => ?_)
              · refine rn_iload_n dX8_about_164 rfl rfl ?_
                refine rn_iconst (v := nI 1) dX8_about_165 (by decide) ?_
                refine rn_icmp_neN (tgt := 178) dX8_about_166 (by decide) (by omega) (by omega) (fun c_166 => ?_) (fun c_166 => ?_)
                · refine rn_iload_n dX8_about_178 rfl rfl ?_
                  refine rn_iconst (v := nI 2) dX8_about_179 (by decide) ?_
                  refine rn_bipush (v := nI 6) dX8_about_180 (by decide) ?_
                  refine rn_callSq (st := []) dX8_about_182 cf_8_70 (m_isInN _ _ (by decide) (by decide) (by decide)) (by omega) rfl rfl (Nat.le_of_ble_eq_true rfl) ?_
                  refine rn_if_eqB (tgt := 192) dX8_about_185 (by decide) (fun c_185 => ?_) (fun c_185 => ?_)
                  · refine rn_iload_n dX8_about_192 rfl rfl ?_
                    refine rn_bipush (v := nI 7) dX8_about_193 (by decide) ?_
                    refine rn_icmp_neN (tgt := 205) dX8_about_195 (by decide) (by omega) (by omega) (fun c_195 => ?_) (fun c_195 => ?_)
                    · refine rn_iload_n dX8_about_205 rfl rfl ?_
                      refine rn_bipush (v := nI 8) dX8_about_206 (by decide) ?_
                      refine rn_icmp_neN (tgt := 218) dX8_about_208 (by decide) (by omega) (by omega) (fun c_208 => ?_) (fun c_208 => ?_)
                      · exact absurd c_208 (by decide)
                      · refine rn_aload_n dX8_about_211 rfl rfl ?_
                        refine rn_callVq (st := []) dX8_about_212 cf_8_81 (c_X8_squares hs hG.1 hG.2.1 w1 w8 h1 h8) (by omega) (sk_l hs 44 (by decide)) (sk_k44 hs) rfl rfl (Nat.le_of_ble_eq_true rfl) ?_
                        refine rn_goto (tgt := 219) dX8_about_215 (by decide) ?_
                        refine rn_ireturn dX8_about_219 rfl (vp_nar_int _) ?_
                        exact ⟨by rw [vAb_8], rfl, rfl⟩
                    · exact absurd c_195 (by decide)
                  · exact absurd c_185 (by decide)
                · exact absurd c_166 (by decide)
              · exact absurd c_152 (by decide)
            · exact absurd c_125 (by decide)
        · exact absurd c_18 (by decide)
  have h9 : t.toInt < 0 ∨ 8 < t.toInt := by
    rw [z_eq, z_nI (by decide)] at ht0 ht1 ht2 ht3 ht4 ht5 ht6 ht7 ht8
    omega
  clear ht0 ht1 ht2 ht3 ht4 ht5 ht6 ht7 ht8
  have e0 := z_nI (n := 0) (by decide)
  have e1 := z_nI (n := 1) (by decide)
  have e6 := z_nI (n := 6) (by decide)
  have e7 := z_nI (n := 7) (by decide)
  have e8 := z_nI (n := 8) (by decide)
  refine am_mt ⟨by decide +kernel, rfl⟩ (Nat.le_of_ble_eq_true rfl) rfl ?_
  refine rn_iconst (v := nI 0) dX8_about_0 (by decide) ?_
  refine rn_istore_n (ls' := [some (.ref 44), some (.int t), some (.int (nI 0)), none, none, none]) dX8_about_1 rfl (by decide) rfl rfl ?_
  refine rn_iconst (v := nI 0) dX8_about_2 (by decide) ?_
  refine rn_istore_n (ls' := [some (.ref 44), some (.int t), some (.int (nI 0)), some (.int (nI 0)), none, none]) dX8_about_3 rfl (by decide) rfl rfl ?_
  refine rn_iload_n dX8_about_4 rfl rfl ?_
  refine rn_bipush (v := nI 17) dX8_about_5 (by decide) ?_
  refine rn_icmp_geN (tgt := 114) dX8_about_7 (by decide) (by omega) (by omega) (fun c_7 => ?_) (fun c_7 => ?_)
  · exact absurd c_7 (by decide)
  · refine rn_iload_n dX8_about_10 rfl rfl ?_
    refine rn_iconst (v := nI 1) dX8_about_11 (by decide) ?_
    refine rn_icmp_le (tgt := 114) dX8_about_12 (by decide) (fun c_12 => ?_) (fun c_12 => ?_)
    · refine rn_iconst (v := nI 1) dX8_about_114 (by decide) ?_
      refine rn_istore_n (ls' := [some (.ref 44), some (.int t), some (.int (nI 0)), some (.int (nI 1)), none, none]) dX8_about_115 rfl (by decide) rfl rfl ?_
      refine rn_iload_n dX8_about_116 rfl rfl ?_
      refine rn_bipush (v := nI 8) dX8_about_117 (by decide) ?_
      refine rn_icmp_gtN (tgt := 151) dX8_about_119 (by decide) (by omega) (by omega) (fun c_119 => ?_) (fun c_119 => ?_)
      · exact absurd c_119 (by decide)
      · refine rn_iload_n dX8_about_122 rfl rfl ?_
        refine rn_bipush (v := nI 6) dX8_about_123 (by decide) ?_
        refine rn_icmp_ne (tgt := 151) dX8_about_125 (by decide) (fun c_125 => ?_) (fun c_125 => ?_)
        · refine rn_iload_n dX8_about_151 rfl rfl ?_
          refine rn_if_ne (tgt := 164) dX8_about_152 (by decide) (fun c_152 => ?_) (fun c_152 => ?_)
          · refine rn_iload_n dX8_about_164 rfl rfl ?_
            refine rn_iconst (v := nI 1) dX8_about_165 (by decide) ?_
            refine rn_icmp_ne (tgt := 178) dX8_about_166 (by decide) (fun c_166 => ?_) (fun c_166 => ?_)
            · refine rn_iload_n dX8_about_178 rfl rfl ?_
              refine rn_iconst (v := nI 2) dX8_about_179 (by decide) ?_
              refine rn_bipush (v := nI 6) dX8_about_180 (by decide) ?_
              refine rn_callSq (st := []) dX8_about_182 cf_8_70 (c_X8_isIn S I _ _ _) (by omega) rfl rfl (Nat.le_of_ble_eq_true rfl) ?_
              refine rn_if_eqB (tgt := 192) dX8_about_185 (by decide) (fun c_185 => ?_) (fun c_185 => ?_)
              · refine rn_iload_n dX8_about_192 rfl rfl ?_
                refine rn_bipush (v := nI 7) dX8_about_193 (by decide) ?_
                refine rn_icmp_ne (tgt := 205) dX8_about_195 (by decide) (fun c_195 => ?_) (fun c_195 => ?_)
                · refine rn_iload_n dX8_about_205 rfl rfl ?_
                  refine rn_bipush (v := nI 8) dX8_about_206 (by decide) ?_
                  refine rn_icmp_ne (tgt := 218) dX8_about_208 (by decide) (fun c_208 => ?_) (fun c_208 => ?_)
                  · refine rn_iconst (v := (-1)) dX8_about_218 (by decide) ?_
                    refine rn_ireturn dX8_about_219 rfl (vp_nar_int _) ?_
                    exact ⟨by rw [vAb_n h9], rfl, rfl⟩
                  · simp only [z_le, z_lt, z_eq, z_0, e1, e6, e0, e7, e8] at *; omega
                · simp only [z_le, z_lt, z_eq, z_0, e1, e6, e0, e7, e8] at *; omega
              · have q := of_decide_eq_true c_185; rw [z_nI (by decide), z_nI (by decide)] at q; omega
            · simp only [z_le, z_lt, z_eq, z_0, e1, e6, e0, e7, e8] at *; omega
          · simp only [z_le, z_lt, z_eq, z_0, e1, e6, e0, e7, e8] at *; omega
        · simp only [z_le, z_lt, z_eq, z_0, e1, e6, e0, e7, e8] at *; omega
    · refine rn_iload_n dX8_about_15 rfl rfl ?_
      refine rn_bipush (v := nI 6) dX8_about_16 (by decide) ?_
      refine rn_icmp_ge (tgt := 114) dX8_about_18 (by decide) (fun c_18 => ?_) (fun c_18 => ?_)
      · refine rn_iconst (v := nI 1) dX8_about_114 (by decide) ?_
        refine rn_istore_n (ls' := [some (.ref 44), some (.int t), some (.int (nI 0)), some (.int (nI 1)), none, none]) dX8_about_115 rfl (by decide) rfl rfl ?_
        refine rn_iload_n dX8_about_116 rfl rfl ?_
        refine rn_bipush (v := nI 8) dX8_about_117 (by decide) ?_
        refine rn_icmp_gtN (tgt := 151) dX8_about_119 (by decide) (by omega) (by omega) (fun c_119 => ?_) (fun c_119 => ?_)
        · exact absurd c_119 (by decide)
        · refine rn_iload_n dX8_about_122 rfl rfl ?_
          refine rn_bipush (v := nI 6) dX8_about_123 (by decide) ?_
          refine rn_icmp_ne (tgt := 151) dX8_about_125 (by decide) (fun c_125 => ?_) (fun c_125 => ?_)
          · refine rn_iload_n dX8_about_151 rfl rfl ?_
            refine rn_if_ne (tgt := 164) dX8_about_152 (by decide) (fun c_152 => ?_) (fun c_152 => ?_)
            · refine rn_iload_n dX8_about_164 rfl rfl ?_
              refine rn_iconst (v := nI 1) dX8_about_165 (by decide) ?_
              refine rn_icmp_ne (tgt := 178) dX8_about_166 (by decide) (fun c_166 => ?_) (fun c_166 => ?_)
              · refine rn_iload_n dX8_about_178 rfl rfl ?_
                refine rn_iconst (v := nI 2) dX8_about_179 (by decide) ?_
                refine rn_bipush (v := nI 6) dX8_about_180 (by decide) ?_
                refine rn_callSq (st := []) dX8_about_182 cf_8_70 (c_X8_isIn S I _ _ _) (by omega) rfl rfl (Nat.le_of_ble_eq_true rfl) ?_
                refine rn_if_eqB (tgt := 192) dX8_about_185 (by decide) (fun c_185 => ?_) (fun c_185 => ?_)
                · refine rn_iload_n dX8_about_192 rfl rfl ?_
                  refine rn_bipush (v := nI 7) dX8_about_193 (by decide) ?_
                  refine rn_icmp_ne (tgt := 205) dX8_about_195 (by decide) (fun c_195 => ?_) (fun c_195 => ?_)
                  · refine rn_iload_n dX8_about_205 rfl rfl ?_
                    refine rn_bipush (v := nI 8) dX8_about_206 (by decide) ?_
                    refine rn_icmp_ne (tgt := 218) dX8_about_208 (by decide) (fun c_208 => ?_) (fun c_208 => ?_)
                    · refine rn_iconst (v := (-1)) dX8_about_218 (by decide) ?_
                      refine rn_ireturn dX8_about_219 rfl (vp_nar_int _) ?_
                      exact ⟨by rw [vAb_n h9], rfl, rfl⟩
                    · simp only [z_le, z_lt, z_eq, z_0, e1, e6, e0, e7, e8] at *; omega
                  · simp only [z_le, z_lt, z_eq, z_0, e1, e6, e0, e7, e8] at *; omega
                · have q := of_decide_eq_true c_185; rw [z_nI (by decide), z_nI (by decide)] at q; omega
              · simp only [z_le, z_lt, z_eq, z_0, e1, e6, e0, e7, e8] at *; omega
            · simp only [z_le, z_lt, z_eq, z_0, e1, e6, e0, e7, e8] at *; omega
          · simp only [z_le, z_lt, z_eq, z_0, e1, e6, e0, e7, e8] at *; omega
      · simp only [z_le, z_lt, z_eq, z_0, e1, e6, e0, e7, e8] at *; omega
