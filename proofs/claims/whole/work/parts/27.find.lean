theorem isq {n N : Nat} (h : n < N) (hN : N ≤ 256) : decide (0 ≤ (nI n).toInt ∧ (nI n).toInt < (N : Int)) = true := decide_eq_true (by rw [z_nI (by omega)]; omega)
set_option maxHeartbeats 1000000 in
set_option maxRecDepth 100000 in
theorem c_X2_follow {S : am_S} (hs : sk S) {I : am_I} {w h y c bb : Nat} {M : Nat → Nat → Nat} (w1 : 1 ≤ w) (w8 : w ≤ 8) (h8 : h ≤ 8) (hok : okM w h M) (hI : isDr I 1 2 w h M) (hy : y < 4 * w * h) (hc : I 7 0 = nI c) (hb : I 11 c = nI bb) (hc8 : c < 256) (hbT : bb + per w h M (lst w y) ≤ 256) (hnew : ∀ x, on w h M y x → I 8 x = -1) : am_Mt 2 Y_X2_follow (0, 0) [.ref 7, .ref 1, .int (nI (y % (2 * w))), .int (nI (y / (2 * w)))] S I (am_q none S (am_up (am_up (fwI 8 9 10 w h M (lst w y) c bb I (per w h M (lst w y))) 7 0 (nI (c + 1))) 11 (c + 1) (nI (bb + per w h M (lst w y))))) := by
  have h256 := sq_bound w8 h8
  have hi0 := lst_inv (h := h) w1 hy
  have hT := per_spec (M := M) hi0
  have hdr := sk_d1 hs
  have EXIT : am_Rn 2 Y_X2_follow (0, 0) 268 [some (.ref 7), some (.ref 1), some (.int (nI (y % (2 * w)))), some (.int (nI (y / (2 * w)))), some (.int (nI bb)), some (.int (nI (bb + per w h M (lst w y)))), none, none, none, none, none, none, none, none, none] [] S (fwI 8 9 10 w h M (lst w y) c bb I (per w h M (lst w y))) (am_q none S (am_up (am_up (fwI 8 9 10 w h M (lst w y) c bb I (per w h M (lst w y))) 7 0 (nI (c + 1))) 11 (c + 1) (nI (bb + per w h M (lst w y))))) := by
    refine rn_aload_n dX2_follow_268 rfl rfl ?_
    refine rn_getI dX2_follow_269 fd_2_30 (sk_l hs 7 (by decide)) (sk_k7 hs) rfl ?_
    refine rn_top (y := nI c) ((by rw [fwI_o (by decide) (by decide) (by decide)]; exact hc)) ?_
    refine rn_sipush (v := nI 256) dX2_follow_272 (by decide) ?_
    refine rn_icmp_geN (tgt := 299) dX2_follow_275 (by decide) (by omega) (by omega) (fun c_275 => ?_) (fun c_275 => ?_)
    · omega
    · refine rn_aload_n dX2_follow_278 rfl rfl ?_
      refine rn_dup dX2_follow_279 rfl ?_
      refine rn_getI dX2_follow_280 fd_2_30 (sk_l hs 7 (by decide)) (sk_k7 hs) rfl ?_
      refine rn_top (y := nI c) ((by rw [fwI_o (by decide) (by decide) (by decide)]; exact hc)) ?_
      refine rn_iconst (v := nI 1) dX2_follow_283 (by decide) ?_
      refine rn_iadd dX2_follow_284 ?_
      refine rn_top (nI_add _ _) ?_
      refine rn_putI dX2_follow_285 fd_2_30 (sk_l hs 7 (by decide)) (sk_k7 hs) rfl rfl (vp_nar_int _) rfl ?_
      refine rn_aload_n dX2_follow_288 rfl rfl ?_
      refine rn_getR (r := 11) dX2_follow_289 fd_2_21 (sk_l hs 7 (by decide)) (sk_k7 hs) rfl (sk_r7_4 hs) ?_
      refine rn_aload_n dX2_follow_292 rfl rfl ?_
      refine rn_getI dX2_follow_293 fd_2_30 (sk_l hs 7 (by decide)) (sk_k7 hs) rfl ?_
      refine rn_top (y := nI (c + 1)) (by simp [am_up, va_up]) ?_
      refine rn_iload dX2_follow_296 rfl ?_
      refine rn_iastoreN dX2_follow_298 (sk_l hs 11 (by decide)) (sk_k11 hs) (by omega) (by omega) ?_
      refine rn_return dX2_follow_299 rfl ?_
      exact ⟨rfl, rfl, rfl⟩
  have LOOP : ∀ k, k ≤ per w h M (lst w y) → am_Rn 2 Y_X2_follow (0, 0) 44 [some (.ref 7), some (.ref 1), some (.int (nI (y % (2 * w)))), some (.int (nI (y / (2 * w)))), some (.int (nI bb)), some (.int (nI (bb + k))), some (.int (nI ((lt w h M k (lst w y)).1))), some (.int (nI ((lt w h M k (lst w y)).2.1))), some (.int (sg ((lt w h M k (lst w y)).2.2.1))), some (.int (sg ((lt w h M k (lst w y)).2.2.2))), some (.int (nI k)), none, none, none, none] [] S (fwI 8 9 10 w h M (lst w y) c bb I k) (am_q none S (am_up (am_up (fwI 8 9 10 w h M (lst w y) c bb I (per w h M (lst w y))) 7 0 (nI (c + 1))) 11 (c + 1) (nI (bb + per w h M (lst w y))))) := by
    refine am_loop (per w h M (lst w y)) (fun k hk ih => ?_)
    obtain ⟨s, e_s⟩ : ∃ s, lt w h M k (lst w y) = s := ⟨_, rfl⟩
    have hsi : lInv w h s := by rw [← e_s]; exact lt_inv hi0 k
    have hsq : (2 * w) * s.2.1 + s.1 < 4 * w * h := sn_lt hsi
    rw [e_s]
    have e_s1 : lt w h M (k + 1) (lst w y) = lF w h M s := by rw [← e_s]; rfl
    have v7 : (fwI 8 9 10 w h M (lst w y) c bb I k) 7 0 = nI c := by rw [fwI_o (by decide) (by decide) (by decide)]; exact hc
    have vD : isDr (fwI 8 9 10 w h M (lst w y) c bb I k) 1 2 w h M := hI.kept (fwI_o (by decide) (by decide) (by decide) k) (fwI_o (by decide) (by decide) (by decide) k)
    have hpt := lInv_pt hsi
    have hgv := gv_le hok (lI s) (lJ s)
    by_cases hkT : k < per w h M (lst w y)
    · have hnw : (fwI 8 9 10 w h M (lst w y) c bb I k) 8 ((2 * w) * s.2.1 + s.1) = -1 := by
        rw [fwI_1 (by decide) (by decide) (fun l hl e => by rw [← e_s] at e; have := lt_dist hi0 (show l < per w h M (lst w y) by omega) hkT e; omega)]
        exact hnew _ ⟨k, by rw [e_s]; rfl⟩
      have J260 : am_Rn 2 Y_X2_follow (0, 0) 260 [some (.ref 7), some (.ref 1), some (.int (nI (y % (2 * w)))), some (.int (nI (y / (2 * w)))), some (.int (nI bb)), some (.int (nI (bb + k + 1))), some (.int (nI ((lF w h M s).1))), some (.int (nI s.2.1)), some (.int (sg (lR w h M s))), some (.int (sg (lD w h M s))), some (.int (nI k)), some (.int (nI ((2 * w) * s.2.1 + s.1))), some (.int (nI (lI s))), some (.int (nI (lJ s))), some (.int (nI (gv w h M (lI s) (lJ s))))] [.int (nI ((lF w h M s).2.1))] S (am_up (am_up (am_up (fwI 8 9 10 w h M (lst w y) c bb I k) 8 ((2 * w) * s.2.1 + s.1) (nI c)) 9 ((2 * w) * s.2.1 + s.1) (nI k)) 10 (bb + k) (nI ((2 * w) * s.2.1 + s.1))) (am_q none S (am_up (am_up (fwI 8 9 10 w h M (lst w y) c bb I (per w h M (lst w y))) 7 0 (nI (c + 1))) 11 (c + 1) (nI (bb + per w h M (lst w y))))) := by
        refine rn_istore (ls' := [some (.ref 7), some (.ref 1), some (.int (nI (y % (2 * w)))), some (.int (nI (y / (2 * w)))), some (.int (nI bb)), some (.int (nI (bb + k + 1))), some (.int (nI ((lF w h M s).1))), some (.int (nI ((lF w h M s).2.1))), some (.int (sg (lR w h M s))), some (.int (sg (lD w h M s))), some (.int (nI k)), some (.int (nI ((2 * w) * s.2.1 + s.1))), some (.int (nI (lI s))), some (.int (nI (lJ s))), some (.int (nI (gv w h M (lI s) (lJ s))))]) dX2_follow_260 (by decide) rfl rfl ?_
        refine rn_iinc (v := nI (k + 1)) (ls' := [some (.ref 7), some (.ref 1), some (.int (nI (y % (2 * w)))), some (.int (nI (y / (2 * w)))), some (.int (nI bb)), some (.int (nI (bb + k + 1))), some (.int (nI ((lF w h M s).1))), some (.int (nI ((lF w h M s).2.1))), some (.int (sg (lR w h M s))), some (.int (sg (lD w h M s))), some (.int (nI (k + 1))), some (.int (nI ((2 * w) * s.2.1 + s.1))), some (.int (nI (lI s))), some (.int (nI (lJ s))), some (.int (nI (gv w h M (lI s) (lJ s))))]) dX2_follow_262 rfl (nI_add _ 1) (by decide) rfl rfl ?_
        refine rn_goto (tgt := 44) dX2_follow_265 (by decide) ?_
        refine rn_ls (ls' := [some (.ref 7), some (.ref 1), some (.int (nI (y % (2 * w)))), some (.int (nI (y / (2 * w)))), some (.int (nI bb)), some (.int (nI (bb + k + 1))), some (.int (nI ((lF w h M s).1))), some (.int (nI ((lF w h M s).2.1))), some (.int (sg (lR w h M s))), some (.int (sg (lD w h M s))), some (.int (nI (k + 1))), none, none, none, none]) rfl (fun k x h => by rcases k with _ | _ | _ | _ | _ | _ | _ | _ | _ | _ | _ | _ | _ | _ | _ | k <;> first | exact h | (simp at h)) ?_
        refine rn_I (I' := (fwI 8 9 10 w h M (lst w y) c bb I (k + 1))) (by simp only [fwI, e_s, sn]) ?_
        have ih1 := ih hkT
        rw [e_s1] at ih1
        exact ih1
      have J244 : am_Rn 2 Y_X2_follow (0, 0) 244 [some (.ref 7), some (.ref 1), some (.int (nI (y % (2 * w)))), some (.int (nI (y / (2 * w)))), some (.int (nI bb)), some (.int (nI (bb + k + 1))), some (.int (nI s.1)), some (.int (nI s.2.1)), some (.int (sg (lR w h M s))), some (.int (sg (lD w h M s))), some (.int (nI k)), some (.int (nI ((2 * w) * s.2.1 + s.1))), some (.int (nI (lI s))), some (.int (nI (lJ s))), some (.int (nI (gv w h M (lI s) (lJ s))))] [.int (nI ((lF w h M s).1))] S (am_up (am_up (am_up (fwI 8 9 10 w h M (lst w y) c bb I k) 8 ((2 * w) * s.2.1 + s.1) (nI c)) 9 ((2 * w) * s.2.1 + s.1) (nI k)) 10 (bb + k) (nI ((2 * w) * s.2.1 + s.1))) (am_q none S (am_up (am_up (fwI 8 9 10 w h M (lst w y) c bb I (per w h M (lst w y))) 7 0 (nI (c + 1))) 11 (c + 1) (nI (bb + per w h M (lst w y))))) := by
        refine rn_istore (ls' := [some (.ref 7), some (.ref 1), some (.int (nI (y % (2 * w)))), some (.int (nI (y / (2 * w)))), some (.int (nI bb)), some (.int (nI (bb + k + 1))), some (.int (nI ((lF w h M s).1))), some (.int (nI s.2.1)), some (.int (sg (lR w h M s))), some (.int (sg (lD w h M s))), some (.int (nI k)), some (.int (nI ((2 * w) * s.2.1 + s.1))), some (.int (nI (lI s))), some (.int (nI (lJ s))), some (.int (nI (gv w h M (lI s) (lJ s))))]) dX2_follow_244 (by decide) rfl rfl ?_
        refine rn_iload dX2_follow_246 rfl ?_
        refine rn_if_leS (tgt := 256) dX2_follow_248 (by decide) (fun c_248 => ?_) (fun c_248 => ?_)
        · have hp9 := lD_pos hsi c_248
          refine rn_iload dX2_follow_256 rfl ?_
          refine rn_iconst (v := nI 1) dX2_follow_258 (by decide) ?_
          refine rn_isub dX2_follow_259 ?_
          refine rn_top (pk_sub (by omega)) ?_
          refine rn_top (y := nI (lF w h M s).2.1) (by rw [show (lF w h M s).2.1 = (lJ s) - 1 from (if_neg (by rw [c_248]; decide))]) ?_
          exact J260
        · refine rn_iload dX2_follow_251 rfl ?_
          refine rn_goto (tgt := 260) dX2_follow_253 (by decide) ?_
          refine rn_top (y := nI (lF w h M s).2.1) (by rw [show (lF w h M s).2.1 = lJ s from if_pos c_248]) ?_
          exact J260
      have J230 : am_Rn 2 Y_X2_follow (0, 0) 230 [some (.ref 7), some (.ref 1), some (.int (nI (y % (2 * w)))), some (.int (nI (y / (2 * w)))), some (.int (nI bb)), some (.int (nI (bb + k + 1))), some (.int (nI s.1)), some (.int (nI s.2.1)), some (.int (sg (lR w h M s))), some (.int (sg (lD w h M s))), some (.int (nI k)), some (.int (nI ((2 * w) * s.2.1 + s.1))), some (.int (nI (lI s))), some (.int (nI (lJ s))), some (.int (nI (gv w h M (lI s) (lJ s))))] [] S (am_up (am_up (am_up (fwI 8 9 10 w h M (lst w y) c bb I k) 8 ((2 * w) * s.2.1 + s.1) (nI c)) 9 ((2 * w) * s.2.1 + s.1) (nI k)) 10 (bb + k) (nI ((2 * w) * s.2.1 + s.1))) (am_q none S (am_up (am_up (fwI 8 9 10 w h M (lst w y) c bb I (per w h M (lst w y))) 7 0 (nI (c + 1))) 11 (c + 1) (nI (bb + per w h M (lst w y))))) := by
        refine rn_iload dX2_follow_230 rfl ?_
        refine rn_if_leS (tgt := 240) dX2_follow_232 (by decide) (fun c_232 => ?_) (fun c_232 => ?_)
        · have hp9 := lR_pos hsi c_232
          refine rn_iload dX2_follow_240 rfl ?_
          refine rn_iconst (v := nI 1) dX2_follow_242 (by decide) ?_
          refine rn_isub dX2_follow_243 ?_
          refine rn_top (pk_sub (by omega)) ?_
          refine rn_top (y := nI (lF w h M s).1) (by rw [show (lF w h M s).1 = (lI s) - 1 from (if_neg (by rw [c_232]; decide))]) ?_
          exact J244
        · refine rn_iload dX2_follow_235 rfl ?_
          refine rn_goto (tgt := 244) dX2_follow_237 (by decide) ?_
          refine rn_top (y := nI (lF w h M s).1) (by rw [show (lF w h M s).1 = lI s from if_pos c_232]) ?_
          exact J244
      have J161 : am_Rn 2 Y_X2_follow (0, 0) 161 [some (.ref 7), some (.ref 1), some (.int (nI (y % (2 * w)))), some (.int (nI (y / (2 * w)))), some (.int (nI bb)), some (.int (nI (bb + k + 1))), some (.int (nI s.1)), some (.int (nI s.2.1)), some (.int (sg s.2.2.1)), some (.int (sg s.2.2.2)), some (.int (nI k)), some (.int (nI ((2 * w) * s.2.1 + s.1))), some (.int (nI (lI s))), none, none] [.int (nI (lJ s))] S (am_up (am_up (am_up (fwI 8 9 10 w h M (lst w y) c bb I k) 8 ((2 * w) * s.2.1 + s.1) (nI c)) 9 ((2 * w) * s.2.1 + s.1) (nI k)) 10 (bb + k) (nI ((2 * w) * s.2.1 + s.1))) (am_q none S (am_up (am_up (fwI 8 9 10 w h M (lst w y) c bb I (per w h M (lst w y))) 7 0 (nI (c + 1))) 11 (c + 1) (nI (bb + per w h M (lst w y))))) := by
        refine rn_istore (ls' := [some (.ref 7), some (.ref 1), some (.int (nI (y % (2 * w)))), some (.int (nI (y / (2 * w)))), some (.int (nI bb)), some (.int (nI (bb + k + 1))), some (.int (nI s.1)), some (.int (nI s.2.1)), some (.int (sg s.2.2.1)), some (.int (sg s.2.2.2)), some (.int (nI k)), some (.int (nI ((2 * w) * s.2.1 + s.1))), some (.int (nI (lI s))), some (.int (nI (lJ s))), none]) dX2_follow_161 (by decide) rfl rfl ?_
        refine rn_aload_n dX2_follow_163 rfl rfl ?_
        refine rn_iload dX2_follow_164 rfl ?_
        refine rn_iload dX2_follow_166 rfl ?_
        refine rn_callVq (st := []) dX2_follow_168 cf_2_54 (c_X0_mAt hdr (vD.kept (by simp [am_up, va_up]) (by simp [am_up, va_up])) w8 h8 (by omega) (by omega)) (by decide) (sk_l hs 1 (by decide)) (sk_k1 hs) rfl rfl (Nat.le_of_ble_eq_true rfl) ?_
        refine rn_istore (ls' := [some (.ref 7), some (.ref 1), some (.int (nI (y % (2 * w)))), some (.int (nI (y / (2 * w)))), some (.int (nI bb)), some (.int (nI (bb + k + 1))), some (.int (nI s.1)), some (.int (nI s.2.1)), some (.int (sg s.2.2.1)), some (.int (sg s.2.2.2)), some (.int (nI k)), some (.int (nI ((2 * w) * s.2.1 + s.1))), some (.int (nI (lI s))), some (.int (nI (lJ s))), some (.int (nI (gv w h M (lI s) (lJ s))))]) dX2_follow_171 (by decide) rfl rfl ?_
        refine rn_iload dX2_follow_173 rfl ?_
        refine rn_if_eqN (tgt := 195) dX2_follow_175 (by decide) (by omega) (fun c_175 => ?_) (fun c_175 => ?_)
        · refine rn_iload dX2_follow_195 rfl ?_
          refine rn_ineg dX2_follow_197 ?_
          refine rn_top (sg_neg _) ?_
          refine rn_istore (ls' := [some (.ref 7), some (.ref 1), some (.int (nI (y % (2 * w)))), some (.int (nI (y / (2 * w)))), some (.int (nI bb)), some (.int (nI (bb + k + 1))), some (.int (nI s.1)), some (.int (nI s.2.1)), some (.int (sg (!s.2.2.1))), some (.int (sg s.2.2.2)), some (.int (nI k)), some (.int (nI ((2 * w) * s.2.1 + s.1))), some (.int (nI (lI s))), some (.int (nI (lJ s))), some (.int (nI (gv w h M (lI s) (lJ s))))]) dX2_follow_198 (by decide) rfl rfl ?_
          refine rn_goto (tgt := 230) dX2_follow_200 (by decide) ?_
          have tx : lTx w h M (lI s) (lJ s) = true := decide_eq_true (by omega)
          have eR : lR w h M s = !s.2.2.1 := if_pos tx
          have eD : lD w h M s = s.2.2.2 := if_pos tx
          rw [eR, eD] at J230
          exact J230
        · refine rn_iload dX2_follow_178 rfl ?_
          refine rn_iconst (v := nI 2) dX2_follow_180 (by decide) ?_
          refine rn_aload_n dX2_follow_181 rfl rfl ?_
          refine rn_getI dX2_follow_182 fd_2_39 (sk_l hs 1 (by decide)) (sk_k1 hs) rfl ?_
          refine rn_top (y := nI w) (by have h9 := vD.1; simp [am_up, va_up, h9]) ?_
          refine rn_imul dX2_follow_185 ?_
          refine rn_top (pk_mul _ _) ?_
          refine rn_icmp_eqN (tgt := 195) dX2_follow_186 (by decide) (by omega) (by omega) (fun c_186 => ?_) (fun c_186 => ?_)
          · refine rn_iload dX2_follow_195 rfl ?_
            refine rn_ineg dX2_follow_197 ?_
            refine rn_top (sg_neg _) ?_
            refine rn_istore (ls' := [some (.ref 7), some (.ref 1), some (.int (nI (y % (2 * w)))), some (.int (nI (y / (2 * w)))), some (.int (nI bb)), some (.int (nI (bb + k + 1))), some (.int (nI s.1)), some (.int (nI s.2.1)), some (.int (sg (!s.2.2.1))), some (.int (sg s.2.2.2)), some (.int (nI k)), some (.int (nI ((2 * w) * s.2.1 + s.1))), some (.int (nI (lI s))), some (.int (nI (lJ s))), some (.int (nI (gv w h M (lI s) (lJ s))))]) dX2_follow_198 (by decide) rfl rfl ?_
            refine rn_goto (tgt := 230) dX2_follow_200 (by decide) ?_
            have tx : lTx w h M (lI s) (lJ s) = true := decide_eq_true (by omega)
            have eR : lR w h M s = !s.2.2.1 := if_pos tx
            have eD : lD w h M s = s.2.2.2 := if_pos tx
            rw [eR, eD] at J230
            exact J230
          · refine rn_iload dX2_follow_189 rfl ?_
            refine rn_iconst (v := nI 1) dX2_follow_191 (by decide) ?_
            refine rn_icmp_neN (tgt := 203) dX2_follow_192 (by decide) (by omega) (by omega) (fun c_192 => ?_) (fun c_192 => ?_)
            · refine rn_iload dX2_follow_203 rfl ?_
              refine rn_if_eqN (tgt := 225) dX2_follow_205 (by decide) (by omega) (fun c_205 => ?_) (fun c_205 => ?_)
              · refine rn_iload dX2_follow_225 rfl ?_
                refine rn_ineg dX2_follow_227 ?_
                refine rn_top (sg_neg _) ?_
                refine rn_istore (ls' := [some (.ref 7), some (.ref 1), some (.int (nI (y % (2 * w)))), some (.int (nI (y / (2 * w)))), some (.int (nI bb)), some (.int (nI (bb + k + 1))), some (.int (nI s.1)), some (.int (nI s.2.1)), some (.int (sg s.2.2.1)), some (.int (sg (!s.2.2.2))), some (.int (nI k)), some (.int (nI ((2 * w) * s.2.1 + s.1))), some (.int (nI (lI s))), some (.int (nI (lJ s))), some (.int (nI (gv w h M (lI s) (lJ s))))]) dX2_follow_228 (by decide) rfl rfl ?_
                have tx : lTx w h M (lI s) (lJ s) = false := decide_eq_false (by omega)
                have eR : lR w h M s = s.2.2.1 := if_neg (by rw [tx]; decide)
                have ty : lTy w h M (lI s) (lJ s) = true := decide_eq_true (by omega)
                have eD : lD w h M s = !s.2.2.2 := by unfold lD; rw [tx, if_neg (by decide), if_pos ty]
                rw [eR, eD] at J230
                exact J230
              · refine rn_iload dX2_follow_208 rfl ?_
                refine rn_iconst (v := nI 2) dX2_follow_210 (by decide) ?_
                refine rn_aload_n dX2_follow_211 rfl rfl ?_
                refine rn_getI dX2_follow_212 fd_2_34 (sk_l hs 1 (by decide)) (sk_k1 hs) rfl ?_
                refine rn_top (y := nI h) (by have h9 := vD.2.1; simp [am_up, va_up, h9]) ?_
                refine rn_imul dX2_follow_215 ?_
                refine rn_top (pk_mul _ _) ?_
                refine rn_icmp_eqN (tgt := 225) dX2_follow_216 (by decide) (by omega) (by omega) (fun c_216 => ?_) (fun c_216 => ?_)
                · refine rn_iload dX2_follow_225 rfl ?_
                  refine rn_ineg dX2_follow_227 ?_
                  refine rn_top (sg_neg _) ?_
                  refine rn_istore (ls' := [some (.ref 7), some (.ref 1), some (.int (nI (y % (2 * w)))), some (.int (nI (y / (2 * w)))), some (.int (nI bb)), some (.int (nI (bb + k + 1))), some (.int (nI s.1)), some (.int (nI s.2.1)), some (.int (sg s.2.2.1)), some (.int (sg (!s.2.2.2))), some (.int (nI k)), some (.int (nI ((2 * w) * s.2.1 + s.1))), some (.int (nI (lI s))), some (.int (nI (lJ s))), some (.int (nI (gv w h M (lI s) (lJ s))))]) dX2_follow_228 (by decide) rfl rfl ?_
                  have tx : lTx w h M (lI s) (lJ s) = false := decide_eq_false (by omega)
                  have eR : lR w h M s = s.2.2.1 := if_neg (by rw [tx]; decide)
                  have ty : lTy w h M (lI s) (lJ s) = true := decide_eq_true (by omega)
                  have eD : lD w h M s = !s.2.2.2 := by unfold lD; rw [tx, if_neg (by decide), if_pos ty]
                  rw [eR, eD] at J230
                  exact J230
                · refine rn_iload dX2_follow_219 rfl ?_
                  refine rn_iconst (v := nI 2) dX2_follow_221 (by decide) ?_
                  refine rn_icmp_neN (tgt := 230) dX2_follow_222 (by decide) (by omega) (by omega) (fun c_222 => ?_) (fun c_222 => ?_)
                  · have tx : lTx w h M (lI s) (lJ s) = false := decide_eq_false (by omega)
                    have eR : lR w h M s = s.2.2.1 := if_neg (by rw [tx]; decide)
                    have ty : lTy w h M (lI s) (lJ s) = false := decide_eq_false (by omega)
                    have eD : lD w h M s = s.2.2.2 := by unfold lD; rw [tx, if_neg (by decide), ty, if_neg (by decide)]
                    rw [eR, eD] at J230
                    exact J230
                  · refine rn_iload dX2_follow_225 rfl ?_
                    refine rn_ineg dX2_follow_227 ?_
                    refine rn_top (sg_neg _) ?_
                    refine rn_istore (ls' := [some (.ref 7), some (.ref 1), some (.int (nI (y % (2 * w)))), some (.int (nI (y / (2 * w)))), some (.int (nI bb)), some (.int (nI (bb + k + 1))), some (.int (nI s.1)), some (.int (nI s.2.1)), some (.int (sg s.2.2.1)), some (.int (sg (!s.2.2.2))), some (.int (nI k)), some (.int (nI ((2 * w) * s.2.1 + s.1))), some (.int (nI (lI s))), some (.int (nI (lJ s))), some (.int (nI (gv w h M (lI s) (lJ s))))]) dX2_follow_228 (by decide) rfl rfl ?_
                    have tx : lTx w h M (lI s) (lJ s) = false := decide_eq_false (by omega)
                    have eR : lR w h M s = s.2.2.1 := if_neg (by rw [tx]; decide)
                    have ty : lTy w h M (lI s) (lJ s) = true := decide_eq_true (by omega)
                    have eD : lD w h M s = !s.2.2.2 := by unfold lD; rw [tx, if_neg (by decide), if_pos ty]
                    rw [eR, eD] at J230
                    exact J230
            · refine rn_iload dX2_follow_195 rfl ?_
              refine rn_ineg dX2_follow_197 ?_
              refine rn_top (sg_neg _) ?_
              refine rn_istore (ls' := [some (.ref 7), some (.ref 1), some (.int (nI (y % (2 * w)))), some (.int (nI (y / (2 * w)))), some (.int (nI bb)), some (.int (nI (bb + k + 1))), some (.int (nI s.1)), some (.int (nI s.2.1)), some (.int (sg (!s.2.2.1))), some (.int (sg s.2.2.2)), some (.int (nI k)), some (.int (nI ((2 * w) * s.2.1 + s.1))), some (.int (nI (lI s))), some (.int (nI (lJ s))), some (.int (nI (gv w h M (lI s) (lJ s))))]) dX2_follow_198 (by decide) rfl rfl ?_
              refine rn_goto (tgt := 230) dX2_follow_200 (by decide) ?_
              have tx : lTx w h M (lI s) (lJ s) = true := decide_eq_true (by omega)
              have eR : lR w h M s = !s.2.2.1 := if_pos tx
              have eD : lD w h M s = s.2.2.2 := if_pos tx
              rw [eR, eD] at J230
              exact J230
      have J145 : am_Rn 2 Y_X2_follow (0, 0) 145 [some (.ref 7), some (.ref 1), some (.int (nI (y % (2 * w)))), some (.int (nI (y / (2 * w)))), some (.int (nI bb)), some (.int (nI (bb + k + 1))), some (.int (nI s.1)), some (.int (nI s.2.1)), some (.int (sg s.2.2.1)), some (.int (sg s.2.2.2)), some (.int (nI k)), some (.int (nI ((2 * w) * s.2.1 + s.1))), none, none, none] [.int (nI (lI s))] S (am_up (am_up (am_up (fwI 8 9 10 w h M (lst w y) c bb I k) 8 ((2 * w) * s.2.1 + s.1) (nI c)) 9 ((2 * w) * s.2.1 + s.1) (nI k)) 10 (bb + k) (nI ((2 * w) * s.2.1 + s.1))) (am_q none S (am_up (am_up (fwI 8 9 10 w h M (lst w y) c bb I (per w h M (lst w y))) 7 0 (nI (c + 1))) 11 (c + 1) (nI (bb + per w h M (lst w y))))) := by
        refine rn_istore (ls' := [some (.ref 7), some (.ref 1), some (.int (nI (y % (2 * w)))), some (.int (nI (y / (2 * w)))), some (.int (nI bb)), some (.int (nI (bb + k + 1))), some (.int (nI s.1)), some (.int (nI s.2.1)), some (.int (sg s.2.2.1)), some (.int (sg s.2.2.2)), some (.int (nI k)), some (.int (nI ((2 * w) * s.2.1 + s.1))), some (.int (nI (lI s))), none, none]) dX2_follow_145 (by decide) rfl rfl ?_
        refine rn_iload dX2_follow_147 rfl ?_
        refine rn_if_leS (tgt := 159) dX2_follow_149 (by decide) (fun c_149 => ?_) (fun c_149 => ?_)
        · refine rn_iload dX2_follow_159 rfl ?_
          refine rn_top (y := nI (lJ s)) (by rw [show lJ s = s.2.1 from (if_neg (by rw [c_149]; decide))]) ?_
          exact J161
        · refine rn_iload dX2_follow_152 rfl ?_
          refine rn_iconst (v := nI 1) dX2_follow_154 (by decide) ?_
          refine rn_iadd dX2_follow_155 ?_
          refine rn_top (nI_add _ _) ?_
          refine rn_goto (tgt := 161) dX2_follow_156 (by decide) ?_
          refine rn_top (y := nI (lJ s)) (by rw [show lJ s = s.2.1 + 1 from if_pos c_149]) ?_
          exact J161
      refine rn_iload dX2_follow_44 rfl ?_
      refine rn_sipush (v := nI 256) dX2_follow_46 (by decide) ?_
      refine rn_icmp_geN (tgt := 268) dX2_follow_49 (by decide) (by omega) (by omega) (fun c_49 => ?_) (fun c_49 => ?_)
      · omega
      · refine rn_iconst (v := nI 2) dX2_follow_52 (by decide) ?_
        refine rn_aload_n dX2_follow_53 rfl rfl ?_
        refine rn_getI dX2_follow_54 fd_2_39 (sk_l hs 1 (by decide)) (sk_k1 hs) rfl ?_
        refine rn_top (y := nI w) (vD.1) ?_
        refine rn_imul dX2_follow_57 ?_
        refine rn_top (pk_mul _ _) ?_
        refine rn_iload dX2_follow_58 rfl ?_
        refine rn_imul dX2_follow_60 ?_
        refine rn_top (pk_mul _ _) ?_
        refine rn_iload dX2_follow_61 rfl ?_
        refine rn_iadd dX2_follow_63 ?_
        refine rn_top (nI_add _ _) ?_
        refine rn_istore (ls' := [some (.ref 7), some (.ref 1), some (.int (nI (y % (2 * w)))), some (.int (nI (y / (2 * w)))), some (.int (nI bb)), some (.int (nI (bb + k))), some (.int (nI s.1)), some (.int (nI s.2.1)), some (.int (sg s.2.2.1)), some (.int (sg s.2.2.2)), some (.int (nI k)), some (.int (nI (((2 * w) * s.2.1) + s.1))), none, none, none]) dX2_follow_64 (by decide) rfl rfl ?_
        refine rn_aload_n dX2_follow_66 rfl rfl ?_
        refine rn_iload dX2_follow_67 rfl ?_
        refine rn_callVq (st := []) dX2_follow_69 cf_2_50 (c_X0_isSquare hdr vD.1 vD.2.1 w8 h8 _) (by decide) (sk_l hs 1 (by decide)) (sk_k1 hs) rfl rfl (Nat.le_of_ble_eq_true rfl) ?_
        refine rn_if_eqB (tgt := 268) dX2_follow_72 (by decide) (fun c_72 => ?_) (fun c_72 => ?_)
        · exact absurd c_72 (by rw [isq hsq h256]; decide)
        · refine rn_aload_n dX2_follow_75 rfl rfl ?_
          refine rn_iload dX2_follow_76 rfl ?_
          refine rn_callVq (st := []) dX2_follow_78 cf_2_42 (c_X2_lineThrough hs (by omega)) (by decide) (sk_l hs 7 (by decide)) (sk_k7 hs) rfl rfl (Nat.le_of_ble_eq_true rfl) ?_
          refine rn_iconst (v := (-1)) dX2_follow_81 (by decide) ?_
          refine rn_icmp_ne (tgt := 268) dX2_follow_82 (by decide) (fun c_82 => ?_) (fun c_82 => ?_)
          · exact absurd hnw c_82
          · refine rn_iload dX2_follow_85 rfl ?_
            refine rn_sipush (v := nI 256) dX2_follow_87 (by decide) ?_
            refine rn_icmp_ltN (tgt := 96) dX2_follow_90 (by decide) (by omega) (by omega) (fun c_90 => ?_) (fun c_90 => ?_)
            · refine rn_aload_n dX2_follow_96 rfl rfl ?_
              refine rn_getR (r := 8) dX2_follow_97 fd_2_9 (sk_l hs 7 (by decide)) (sk_k7 hs) rfl (sk_r7_1 hs) ?_
              refine rn_iload dX2_follow_100 rfl ?_
              refine rn_aload_n dX2_follow_102 rfl rfl ?_
              refine rn_getI dX2_follow_103 fd_2_30 (sk_l hs 7 (by decide)) (sk_k7 hs) rfl ?_
              refine rn_top (y := nI c) (v7) ?_
              refine rn_iastoreN dX2_follow_106 (sk_l hs 8 (by decide)) (sk_k8 hs) (by omega) (by omega) ?_
              refine rn_aload_n dX2_follow_107 rfl rfl ?_
              refine rn_getR (r := 9) dX2_follow_108 fd_2_15 (sk_l hs 7 (by decide)) (sk_k7 hs) rfl (sk_r7_2 hs) ?_
              refine rn_iload dX2_follow_111 rfl ?_
              refine rn_iload dX2_follow_113 rfl ?_
              refine rn_iload dX2_follow_115 rfl ?_
              refine rn_isub dX2_follow_117 ?_
              refine rn_top (pk_sub (by omega)) ?_
              refine rn_top (y := nI k) (by congr 1; omega) ?_
              refine rn_iastoreN dX2_follow_118 (sk_l hs 9 (by decide)) (sk_k9 hs) (by omega) (by omega) ?_
              refine rn_aload_n dX2_follow_119 rfl rfl ?_
              refine rn_getR (r := 10) dX2_follow_120 fd_2_18 (sk_l hs 7 (by decide)) (sk_k7 hs) rfl (sk_r7_3 hs) ?_
              refine rn_iload dX2_follow_123 rfl ?_
              refine rn_iload dX2_follow_125 rfl ?_
              refine rn_iastoreN dX2_follow_127 (sk_l hs 10 (by decide)) (sk_k10 hs) (by omega) (by omega) ?_
              refine rn_iinc (v := nI ((bb + k) + 1)) (ls' := [some (.ref 7), some (.ref 1), some (.int (nI (y % (2 * w)))), some (.int (nI (y / (2 * w)))), some (.int (nI bb)), some (.int (nI ((bb + k) + 1))), some (.int (nI s.1)), some (.int (nI s.2.1)), some (.int (sg s.2.2.1)), some (.int (sg s.2.2.2)), some (.int (nI k)), some (.int (nI (((2 * w) * s.2.1) + s.1))), none, none, none]) dX2_follow_128 rfl (nI_add _ 1) (by decide) rfl rfl ?_
              refine rn_iload dX2_follow_131 rfl ?_
              refine rn_if_leS (tgt := 143) dX2_follow_133 (by decide) (fun c_133 => ?_) (fun c_133 => ?_)
              · refine rn_iload dX2_follow_143 rfl ?_
                refine rn_top (y := nI (lI s)) (by rw [show lI s = s.1 from (if_neg (by rw [c_133]; decide))]) ?_
                exact J145
              · refine rn_iload dX2_follow_136 rfl ?_
                refine rn_iconst (v := nI 1) dX2_follow_138 (by decide) ?_
                refine rn_iadd dX2_follow_139 ?_
                refine rn_top (nI_add _ _) ?_
                refine rn_goto (tgt := 145) dX2_follow_140 (by decide) ?_
                refine rn_top (y := nI (lI s)) (by rw [show lI s = s.1 + 1 from if_pos c_133]) ?_
                exact J145
            · omega
    · have ekT : k = per w h M (lst w y) := by omega
      have hold : (fwI 8 9 10 w h M (lst w y) c bb I k) 8 ((2 * w) * s.2.1 + s.1) = nI c := by
        have hz := (fwI_at (A1 := 8) (A2 := 9) (A3 := 10) (c := c) (bb := bb) (I := I) (by decide) (by decide) (by decide) hi0 (k := k) (l := 0) (by omega) (by omega)).1
        rw [show sn w (lt w h M 0 (lst w y)) = (2 * w) * s.2.1 + s.1 from by rw [← e_s, ekT, hT.1.2.2]; rfl] at hz
        exact hz
      have hcne : ¬ nI c = -1 := fun q => by have := congrArg Int32.toInt q; rw [z_nI (by omega), z_m1] at this; omega
      refine rn_iload dX2_follow_44 rfl ?_
      refine rn_sipush (v := nI 256) dX2_follow_46 (by decide) ?_
      refine rn_icmp_geN (tgt := 268) dX2_follow_49 (by decide) (by omega) (by omega) (fun c_49 => ?_) (fun c_49 => ?_)
      · refine rn_ls (ls' := [some (.ref 7), some (.ref 1), some (.int (nI (y % (2 * w)))), some (.int (nI (y / (2 * w)))), some (.int (nI bb)), some (.int (nI (bb + k))), none, none, none, none, none, none, none, none, none]) rfl (fun k x h => by rcases k with _ | _ | _ | _ | _ | _ | _ | _ | _ | _ | _ | _ | _ | _ | _ | k <;> first | exact h | (simp at h)) ?_
        rw [ekT]
        exact EXIT
      · refine rn_iconst (v := nI 2) dX2_follow_52 (by decide) ?_
        refine rn_aload_n dX2_follow_53 rfl rfl ?_
        refine rn_getI dX2_follow_54 fd_2_39 (sk_l hs 1 (by decide)) (sk_k1 hs) rfl ?_
        refine rn_top (y := nI w) (vD.1) ?_
        refine rn_imul dX2_follow_57 ?_
        refine rn_top (pk_mul _ _) ?_
        refine rn_iload dX2_follow_58 rfl ?_
        refine rn_imul dX2_follow_60 ?_
        refine rn_top (pk_mul _ _) ?_
        refine rn_iload dX2_follow_61 rfl ?_
        refine rn_iadd dX2_follow_63 ?_
        refine rn_top (nI_add _ _) ?_
        refine rn_istore (ls' := [some (.ref 7), some (.ref 1), some (.int (nI (y % (2 * w)))), some (.int (nI (y / (2 * w)))), some (.int (nI bb)), some (.int (nI (bb + k))), some (.int (nI s.1)), some (.int (nI s.2.1)), some (.int (sg s.2.2.1)), some (.int (sg s.2.2.2)), some (.int (nI k)), some (.int (nI (((2 * w) * s.2.1) + s.1))), none, none, none]) dX2_follow_64 (by decide) rfl rfl ?_
        refine rn_aload_n dX2_follow_66 rfl rfl ?_
        refine rn_iload dX2_follow_67 rfl ?_
        refine rn_callVq (st := []) dX2_follow_69 cf_2_50 (c_X0_isSquare hdr vD.1 vD.2.1 w8 h8 _) (by decide) (sk_l hs 1 (by decide)) (sk_k1 hs) rfl rfl (Nat.le_of_ble_eq_true rfl) ?_
        refine rn_if_eqB (tgt := 268) dX2_follow_72 (by decide) (fun c_72 => ?_) (fun c_72 => ?_)
        · exact absurd c_72 (by rw [isq hsq h256]; decide)
        · refine rn_aload_n dX2_follow_75 rfl rfl ?_
          refine rn_iload dX2_follow_76 rfl ?_
          refine rn_callVq (st := []) dX2_follow_78 cf_2_42 (c_X2_lineThrough hs (by omega)) (by decide) (sk_l hs 7 (by decide)) (sk_k7 hs) rfl rfl (Nat.le_of_ble_eq_true rfl) ?_
          refine rn_iconst (v := (-1)) dX2_follow_81 (by decide) ?_
          refine rn_icmp_ne (tgt := 268) dX2_follow_82 (by decide) (fun c_82 => ?_) (fun c_82 => ?_)
          · refine rn_ls (ls' := [some (.ref 7), some (.ref 1), some (.int (nI (y % (2 * w)))), some (.int (nI (y / (2 * w)))), some (.int (nI bb)), some (.int (nI (bb + k))), none, none, none, none, none, none, none, none, none]) rfl (fun k x h => by rcases k with _ | _ | _ | _ | _ | _ | _ | _ | _ | _ | _ | _ | _ | _ | _ | k <;> first | exact h | (simp at h)) ?_
            rw [ekT]
            exact EXIT
          · exact absurd (hold.symm.trans c_82) hcne
  have J39 : am_Rn 2 Y_X2_follow (0, 0) 39 [some (.ref 7), some (.ref 1), some (.int (nI (y % (2 * w)))), some (.int (nI (y / (2 * w)))), some (.int (nI bb)), some (.int (nI bb)), some (.int (nI (y % (2 * w)))), some (.int (nI (y / (2 * w)))), some (.int (nI 1)), none, none, none, none, none, none] [.int (sg (decide ((y % (2 * w) + y / (2 * w)) % 2 = 1)))] S I (am_q none S (am_up (am_up (fwI 8 9 10 w h M (lst w y) c bb I (per w h M (lst w y))) 7 0 (nI (c + 1))) 11 (c + 1) (nI (bb + per w h M (lst w y))))) := by
    refine rn_istore (ls' := [some (.ref 7), some (.ref 1), some (.int (nI (y % (2 * w)))), some (.int (nI (y / (2 * w)))), some (.int (nI bb)), some (.int (nI bb)), some (.int (nI (y % (2 * w)))), some (.int (nI (y / (2 * w)))), some (.int (nI 1)), some (.int (sg (decide ((y % (2 * w) + y / (2 * w)) % 2 = 1)))), none, none, none, none, none]) dX2_follow_39 (by decide) rfl rfl ?_
    refine rn_iconst (v := nI 0) dX2_follow_41 (by decide) ?_
    refine rn_istore (ls' := [some (.ref 7), some (.ref 1), some (.int (nI (y % (2 * w)))), some (.int (nI (y / (2 * w)))), some (.int (nI bb)), some (.int (nI bb)), some (.int (nI (y % (2 * w)))), some (.int (nI (y / (2 * w)))), some (.int (nI 1)), some (.int (sg (decide ((y % (2 * w) + y / (2 * w)) % 2 = 1)))), some (.int (nI 0)), none, none, none, none]) dX2_follow_42 (by decide) rfl rfl ?_
    exact LOOP 0 (Nat.zero_le _)
  have hyb : y / (2 * w) < 2 * h := hi0.2.1
  have hya : y % (2 * w) < 2 * w := hi0.1
  refine am_mt ⟨by decide +kernel, rfl⟩ (Nat.le_of_ble_eq_true rfl) rfl ?_
  refine rn_aload_n dX2_follow_0 rfl rfl ?_
  refine rn_getR (r := 11) dX2_follow_1 fd_2_21 (sk_l hs 7 (by decide)) (sk_k7 hs) rfl (sk_r7_4 hs) ?_
  refine rn_aload_n dX2_follow_4 rfl rfl ?_
  refine rn_getI dX2_follow_5 fd_2_30 (sk_l hs 7 (by decide)) (sk_k7 hs) rfl ?_
  refine rn_top (y := nI c) (hc) ?_
  refine rn_ialoadN dX2_follow_8 (sk_l hs 11 (by decide)) (sk_k11 hs) (by omega) (by omega) ?_
  refine rn_top (y := nI bb) (hb) ?_
  refine rn_istore (ls' := [some (.ref 7), some (.ref 1), some (.int (nI (y % (2 * w)))), some (.int (nI (y / (2 * w)))), some (.int (nI bb)), none, none, none, none, none, none, none, none, none, none]) dX2_follow_9 (by decide) rfl rfl ?_
  refine rn_iload dX2_follow_11 rfl ?_
  refine rn_istore (ls' := [some (.ref 7), some (.ref 1), some (.int (nI (y % (2 * w)))), some (.int (nI (y / (2 * w)))), some (.int (nI bb)), some (.int (nI bb)), none, none, none, none, none, none, none, none, none]) dX2_follow_13 (by decide) rfl rfl ?_
  refine rn_iload_n dX2_follow_15 rfl rfl ?_
  refine rn_istore (ls' := [some (.ref 7), some (.ref 1), some (.int (nI (y % (2 * w)))), some (.int (nI (y / (2 * w)))), some (.int (nI bb)), some (.int (nI bb)), some (.int (nI (y % (2 * w)))), none, none, none, none, none, none, none, none]) dX2_follow_16 (by decide) rfl rfl ?_
  refine rn_iload_n dX2_follow_18 rfl rfl ?_
  refine rn_istore (ls' := [some (.ref 7), some (.ref 1), some (.int (nI (y % (2 * w)))), some (.int (nI (y / (2 * w)))), some (.int (nI bb)), some (.int (nI bb)), some (.int (nI (y % (2 * w)))), some (.int (nI (y / (2 * w)))), none, none, none, none, none, none, none]) dX2_follow_19 (by decide) rfl rfl ?_
  refine rn_iconst (v := nI 1) dX2_follow_21 (by decide) ?_
  refine rn_istore (ls' := [some (.ref 7), some (.ref 1), some (.int (nI (y % (2 * w)))), some (.int (nI (y / (2 * w)))), some (.int (nI bb)), some (.int (nI bb)), some (.int (nI (y % (2 * w)))), some (.int (nI (y / (2 * w)))), some (.int (nI 1)), none, none, none, none, none, none]) dX2_follow_22 (by decide) rfl rfl ?_
  refine rn_iload dX2_follow_24 rfl ?_
  refine rn_iload dX2_follow_26 rfl ?_
  refine rn_iadd dX2_follow_28 ?_
  refine rn_top (nI_add _ _) ?_
  refine rn_iconst (v := nI 1) dX2_follow_29 (by decide) ?_
  refine rn_iand dX2_follow_30 ?_
  refine rn_top (z_nand (by omega)) ?_
  refine rn_if_neN (tgt := 38) dX2_follow_31 (by decide) (by omega) (fun c_31 => ?_) (fun c_31 => ?_)
  · refine rn_iconst (v := nI 1) dX2_follow_38 (by decide) ?_
    refine rn_top (y := sg (decide ((y % (2 * w) + y / (2 * w)) % 2 = 1))) (sg_t (decide_eq_true (by omega))) ?_
    exact J39
  · refine rn_iconst (v := (-1)) dX2_follow_34 (by decide) ?_
    refine rn_goto (tgt := 39) dX2_follow_35 (by decide) ?_
    refine rn_top (y := sg (decide ((y % (2 * w) + y / (2 * w)) % 2 = 1))) (sg_f (decide_eq_false (by omega))) ?_
    exact J39
/-- the finder's rows once the squares below s are through, and all else as it was -/
def FA (w h : Nat) (M : Nat → Nat → Nat) (I0 I : am_I) (s : Nat) : Prop := LF w h M I 8 9 10 11 s ∧ I 7 0 = nI (nl w h M s) ∧ I 11 (nl w h M s) = nI (bg w h M s) ∧ ∀ b, b ≠ 7 → b ≠ 8 → b ≠ 9 → b ≠ 10 → b ≠ 11 → I b = I0 b
theorem FA_step {w h : Nat} {M : Nat → Nat → Nat} {I0 I : am_I} {s : Nat} (w1 : 1 ≤ w) (hs : s < 4 * w * h) (hl : lead w h M s) (hF : FA w h M I0 I s) : FA w h M I0 (am_up (am_up (fwI 8 9 10 w h M (lst w s) (nl w h M s) (bg w h M s) I (per w h M (lst w s))) 7 0 (nI (nl w h M s + 1))) 11 (nl w h M s + 1) (nI (bg w h M s + per w h M (lst w s)))) (s + 1) := by
  obtain ⟨h1, h2, h3, h4⟩ := hF
  refine ⟨LF_step (by decide) (by decide) (by decide) w1 hs hl h1 ?_ ?_ ?_ ?_ ?_, ?_, ?_, ?_⟩
  · rw [am_up_k _ _ (by omega), am_up_a _ _ (by decide), fwI_o (by decide) (by decide) (by decide)]; exact h3
  · intro x hx
    rw [am_up_k _ _ (by omega), am_up_a _ _ (by decide), fwI_o (by decide) (by decide) (by decide)]
  · rw [am_up_a _ _ (by decide), am_up_a _ _ (by decide)]
  · rw [am_up_a _ _ (by decide), am_up_a _ _ (by decide)]
  · rw [am_up_a _ _ (by decide), am_up_a _ _ (by decide)]
  · rw [nl_s hl, am_up_a _ _ (by decide), am_up_at]
  · rw [nl_s hl, bg_s hl, am_up_at]
  · intro b b1 b2 b3 b4 b5
    rw [am_up_a _ _ b5, am_up_a _ _ b1, fwI_o b2 b3 b4]
    exact h4 b b1 b2 b3 b4 b5
theorem FA_skip {w h : Nat} {M : Nat → Nat → Nat} {I0 I : am_I} {s : Nat} (w1 : 1 ≤ w) (hs : s < 4 * w * h) (hl : ¬ lead w h M s) (hF : FA w h M I0 I s) : FA w h M I0 I (s + 1) := by
  obtain ⟨h1, h2, h3, h4⟩ := hF
  exact ⟨LF_skip w1 hs hl h1, by rw [nl_n hl]; exact h2, by rw [nl_n hl, bg_n hl]; exact h3, h4⟩
theorem LF_old {w h : Nat} {M : Nat → Nat → Nat} {I : am_I} {A1 A2 A3 A4 s : Nat} (w1 : 1 ≤ w) (hs : s < 4 * w * h) (hF : LF w h M I A1 A2 A3 A4 s) (hl : ¬ lead w h M s) : ∃ n, n ≤ 256 ∧ I A1 s = nI n ∨ 256 < 4 * w * h := by
  have hv : vis w h M s s := Classical.byContradiction (fun hn => hl (lead_vis.mpr hn))
  obtain ⟨y, hy, hly, ho⟩ := vis_lead w1 (by omega) hv
  obtain ⟨k, hk, e⟩ := on_per w1 (by omega) ho
  have := (hF.2.1 y k hy hly hk).1
  rw [e] at this
  by_cases hb : 4 * w * h ≤ 256
  · exact ⟨nl w h M y, Or.inl ⟨Nat.le_trans (nl_le_bg w1 (by omega)) (Nat.le_trans (bg_le w1 (by omega)) hb), this⟩⟩
  · exact ⟨0, Or.inr (by omega)⟩
theorem LF_new {w h : Nat} {M : Nat → Nat → Nat} {I : am_I} {A1 A2 A3 A4 s : Nat} (hs : s < 4 * w * h) (hF : LF w h M I A1 A2 A3 A4 s) (hl : lead w h M s) : I A1 s = -1 := hF.1 s hs (lead_vis.mp hl)
theorem row_next {w h b : Nat} (hb : b < 2 * h) : 2 * w * b + 2 * w = 2 * w * (b + 1) ∧ 2 * w * (b + 1) ≤ 4 * w * h := by
  have e : 2 * w * (2 * h) = 4 * w * h := by rw [show 4 * w * h = 2 * 2 * w * h by rfl]; simp only [Nat.mul_assoc, Nat.mul_left_comm, Nat.mul_comm]
  refine ⟨by rw [Nat.mul_add, Nat.mul_one], ?_⟩
  rw [← e]
  exact Nat.mul_le_mul_left _ hb
theorem row_dm {w a b : Nat} (ha : a < 2 * w) : (2 * w * b + a) % (2 * w) = a ∧ (2 * w * b + a) / (2 * w) = b := by
  refine ⟨by rw [Nat.mul_add_mod, Nat.mod_eq_of_lt ha], ?_⟩
  rw [Nat.mul_add_div (by omega), Nat.div_eq_of_lt ha]
  rfl
set_option maxHeartbeats 1000000 in
set_option maxRecDepth 100000 in
theorem c_X2_findAll {S : am_S} (hs : sk S) {I : am_I} {w h : Nat} {M : Nat → Nat → Nat} (w1 : 1 ≤ w) (w8 : w ≤ 8) (h8 : h ≤ 8) (hok : okM w h M) (hI : isDr I 1 2 w h M) : am_Mt 3 Y_X2_findAll (0, 0) [.ref 7, .ref 1] S I (fun r S' I' => r = none ∧ S' = S ∧ FA w h M I I' (4 * w * h)) := by
  have h256 := sq_bound w8 h8
  have LB : ∀ b, b ≤ 2 * h → ∀ J, FA w h M I J (2 * w * b) → am_Rn 3 Y_X2_findAll (0, 0) 22 [some (.ref 7), some (.ref 1), some (.int (nI b)), none] [] S J (fun r S' I' => r = none ∧ S' = S ∧ FA w h M I I' (4 * w * h)) := by
    refine am_loop (2 * h) (fun b hb2 ihb => ?_)
    have LAA : b < 2 * h → ∀ a, a ≤ 2 * w → ∀ J, FA w h M I J (2 * w * b + a) → am_Rn 3 Y_X2_findAll (0, 0) 34 [some (.ref 7), some (.ref 1), some (.int (nI b)), some (.int (nI a))] [] S J (fun r S' I' => r = none ∧ S' = S ∧ FA w h M I I' (4 * w * h)) := by
      intro c_29
      have hrow := row_next (w := w) c_29
      refine am_loop (2 * w) (fun a ha2 ih J hF => ?_)
      have vD : isDr J 1 2 w h M := hI.kept (hF.2.2.2 1 (by decide) (by decide) (by decide) (by decide) (by decide)) (hF.2.2.2 2 (by decide) (by decide) (by decide) (by decide) (by decide))
      have hx0 : a < 2 * w → 2 * w * b + a < 4 * w * h := fun q => by omega
      refine rn_iload_n dX2_findAll_34 rfl rfl ?_
      refine rn_iconst (v := nI 2) dX2_findAll_35 (by decide) ?_
      refine rn_aload_n dX2_findAll_36 rfl rfl ?_
      refine rn_getI dX2_findAll_37 fd_2_39 (sk_l hs 1 (by decide)) (sk_k1 hs) rfl ?_
      refine rn_top (y := nI w) (vD.1) ?_
      refine rn_imul dX2_findAll_40 ?_
      refine rn_top (pk_mul _ _) ?_
      refine rn_icmp_geN (tgt := 75) dX2_findAll_41 (by decide) (by omega) (by omega) (fun c_41 => ?_) (fun c_41 => ?_)
      · refine rn_iinc (v := nI (b + 1)) (ls' := [some (.ref 7), some (.ref 1), some (.int (nI (b + 1))), some (.int (nI a))]) dX2_findAll_75 rfl (nI_add _ 1) (by decide) rfl rfl ?_
        refine rn_goto (tgt := 22) dX2_findAll_78 (by decide) ?_
        refine rn_ls (ls' := [some (.ref 7), some (.ref 1), some (.int (nI (b + 1))), none]) rfl (fun k x h => by rcases k with _ | _ | _ | _ | k <;> first | exact h | (simp at h)) ?_
        obtain rfl : a = 2 * w := by omega
        rw [(row_next c_29).1] at hF
        exact ihb c_29 J hF
      · have hx := hx0 c_41
        refine rn_aload_n dX2_findAll_44 rfl rfl ?_
        refine rn_iconst (v := nI 2) dX2_findAll_45 (by decide) ?_
        refine rn_aload_n dX2_findAll_46 rfl rfl ?_
        refine rn_getI dX2_findAll_47 fd_2_39 (sk_l hs 1 (by decide)) (sk_k1 hs) rfl ?_
        refine rn_top (y := nI w) (vD.1) ?_
        refine rn_imul dX2_findAll_50 ?_
        refine rn_top (pk_mul _ _) ?_
        refine rn_iload_n dX2_findAll_51 rfl rfl ?_
        refine rn_imul dX2_findAll_52 ?_
        refine rn_top (pk_mul _ _) ?_
        refine rn_iload_n dX2_findAll_53 rfl rfl ?_
        refine rn_iadd dX2_findAll_54 ?_
        refine rn_top (nI_add _ _) ?_
        refine rn_callVq (st := []) dX2_findAll_55 cf_2_42 (c_X2_lineThrough hs (by omega)) (by decide) (sk_l hs 7 (by decide)) (sk_k7 hs) rfl rfl (Nat.le_of_ble_eq_true rfl) ?_
        refine rn_iconst (v := (-1)) dX2_findAll_58 (by decide) ?_
        refine rn_icmp_ne (tgt := 69) dX2_findAll_59 (by decide) (fun c_59 => ?_) (fun c_59 => ?_)
        · have hnl : ¬ lead w h M (2 * w * b + a) := fun q => c_59 (LF_new hx hF.1 q)
          refine rn_iinc (v := nI (a + 1)) (ls' := [some (.ref 7), some (.ref 1), some (.int (nI b)), some (.int (nI (a + 1)))]) dX2_findAll_69 rfl (nI_add _ 1) (by decide) rfl rfl ?_
          refine rn_goto (tgt := 34) dX2_findAll_72 (by decide) ?_
          exact ih c_41 J (FA_skip w1 hx hnl hF)
        · have hl : lead w h M (2 * w * b + a) := Classical.byContradiction (fun hn => by obtain ⟨n, h9⟩ := LF_old w1 hx hF.1 hn; rcases h9 with ⟨h9, h10⟩ | h9; exact absurd (h10.symm.trans c_59) (fun q => by have := congrArg Int32.toInt q; rw [z_nI (by omega), z_m1] at this; omega); omega)
          have hbg := bg_le (w := w) (h := h) (M := M) w1 (show 2 * w * b + a + 1 ≤ 4 * w * h by omega)
          rw [bg_s hl] at hbg
          have hcb : nl w h M (2 * w * b + a) < 256 := by have h9 := nl_le_bg (w := w) (h := h) (M := M) w1 (show 2 * w * b + a + 1 ≤ 4 * w * h by omega); rw [nl_s hl, bg_s hl] at h9; omega
          have hbb : bg w h M (2 * w * b + a) + per w h M (lst w (2 * w * b + a)) ≤ 256 := by omega
          refine rn_aload_n dX2_findAll_62 rfl rfl ?_
          refine rn_aload_n dX2_findAll_63 rfl rfl ?_
          refine rn_iload_n dX2_findAll_64 rfl rfl ?_
          refine rn_iload_n dX2_findAll_65 rfl rfl ?_
          refine rn_callVq (st := []) dX2_findAll_66 cf_2_46 ((by have hz := c_X2_follow hs (c := nl w h M (2 * w * b + a)) (bb := bg w h M (2 * w * b + a)) w1 w8 h8 hok vD hx hF.2.1 hF.2.2.1 hcb hbb (fun z hz => hF.1.1 z (on_lt w1 hx hz) (lead_new w1 hx hl hz)); rw [(row_dm c_41).1, (row_dm c_41).2] at hz; exact hz)) (by decide) (sk_l hs 7 (by decide)) (sk_k7 hs) rfl rfl (Nat.le_of_ble_eq_true rfl) ?_
          skip
          refine rn_iinc (v := nI (a + 1)) (ls' := [some (.ref 7), some (.ref 1), some (.int (nI b)), some (.int (nI (a + 1)))]) dX2_findAll_69 rfl (nI_add _ 1) (by decide) rfl rfl ?_
          refine rn_goto (tgt := 34) dX2_findAll_72 (by decide) ?_
          exact ih c_41 _ (FA_step w1 hx hl hF)
    intro J hF
    have vD : isDr J 1 2 w h M := hI.kept (hF.2.2.2 1 (by decide) (by decide) (by decide) (by decide) (by decide)) (hF.2.2.2 2 (by decide) (by decide) (by decide) (by decide) (by decide))
    refine rn_iload_n dX2_findAll_22 rfl rfl ?_
    refine rn_iconst (v := nI 2) dX2_findAll_23 (by decide) ?_
    refine rn_aload_n dX2_findAll_24 rfl rfl ?_
    refine rn_getI dX2_findAll_25 fd_2_34 (sk_l hs 1 (by decide)) (sk_k1 hs) rfl ?_
    refine rn_top (y := nI h) (vD.2.1) ?_
    refine rn_imul dX2_findAll_28 ?_
    refine rn_top (pk_mul _ _) ?_
    refine rn_icmp_geN (tgt := 81) dX2_findAll_29 (by decide) (by omega) (by omega) (fun c_29 => ?_) (fun c_29 => ?_)
    · refine rn_return dX2_findAll_81 rfl ?_
      obtain rfl : b = 2 * h := by omega
      rw [show 2 * w * (2 * h) = 4 * w * h by rw [show 4 * w * h = 2 * 2 * w * h by rfl]; simp only [Nat.mul_assoc, Nat.mul_left_comm, Nat.mul_comm]] at hF
      exact ⟨rfl, rfl, hF⟩
    · refine rn_iconst (v := nI 0) dX2_findAll_32 (by decide) ?_
      refine rn_istore_n (ls' := [some (.ref 7), some (.ref 1), some (.int (nI b)), some (.int (nI 0))]) dX2_findAll_33 rfl (by decide) rfl rfl ?_
      exact LAA c_29 0 (by omega) J hF
  refine am_mt ⟨by decide +kernel, rfl⟩ (Nat.le_of_ble_eq_true rfl) rfl ?_
  refine rn_aload_n dX2_findAll_0 rfl rfl ?_
  refine rn_getR (r := 8) dX2_findAll_1 fd_2_9 (sk_l hs 7 (by decide)) (sk_k7 hs) rfl (sk_r7_1 hs) ?_
  refine rn_iconst (v := (-1)) dX2_findAll_4 (by decide) ?_
  refine rn_callSq (st := []) dX2_findAll_5 cf_2_24 (c_J7_fill S I (-1) (sk_l hs 8 (by decide)) (sk_k8 hs) (by omega)) (by decide) rfl rfl (Nat.le_of_ble_eq_true rfl) ?_
  refine rn_aload_n dX2_findAll_8 rfl rfl ?_
  refine rn_iconst (v := nI 0) dX2_findAll_9 (by decide) ?_
  refine rn_putI dX2_findAll_10 fd_2_30 (sk_l hs 7 (by decide)) (sk_k7 hs) rfl rfl (vp_nar_int _) rfl ?_
  refine rn_aload_n dX2_findAll_13 rfl rfl ?_
  refine rn_getR (r := 11) dX2_findAll_14 fd_2_21 (sk_l hs 7 (by decide)) (sk_k7 hs) rfl (sk_r7_4 hs) ?_
  refine rn_iconst (v := nI 0) dX2_findAll_17 (by decide) ?_
  refine rn_iconst (v := nI 0) dX2_findAll_18 (by decide) ?_
  refine rn_iastoreN dX2_findAll_19 (sk_l hs 11 (by decide)) (sk_k11 hs) (by omega) (by omega) ?_
  refine rn_iconst (v := nI 0) dX2_findAll_20 (by decide) ?_
  refine rn_istore_n (ls' := [some (.ref 7), some (.ref 1), some (.int (nI 0)), none]) dX2_findAll_21 rfl (by decide) rfl rfl ?_
  refine LB 0 (by omega) _ ?_
  refine ⟨⟨fun x hx _ => ?_, fun y k hy => absurd hy (by omega), fun y hy => absurd hy (by omega)⟩, ?_, ?_, ?_⟩
  · have : x < 256 := by omega
    simp [am_up, va_up, am_fl, this]
  · simp [am_up, va_up, nl]
  · simp [am_up, va_up, nl, bg]
  · intro c c1 c2 c3 c4 c5
    simp [am_up, va_up, c1, c2, c5]
