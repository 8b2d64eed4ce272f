theorem pt_addI (s : lS) : nI (lI (lV s)) + sg s.2.2.1 = nI (lI s) := by
  obtain ⟨a, b, r, d⟩ := s
  rw [sg_add]
  · cases r <;> simp [lI, lV]
  · intro h; simp only at h; subst h; simp [lI, lV]
theorem pt_addJ (s : lS) : nI (lJ (lV s)) + sg s.2.2.2 = nI (lJ s) := by
  obtain ⟨a, b, r, d⟩ := s
  rw [sg_add]
  · cases d <;> simp [lJ, lV]
  · intro h; simp only at h; subst h; simp [lJ, lV]
theorem lT_two {w h : Nat} {M : Nat → Nat → Nat} {s : lS} (hs : lInv w h s) (h1 : lTy w h M (lI s) (lJ s) = true) : lTx w h M (lI s) (lJ s) = false := by
  cases hq : lTx w h M (lI s) (lJ s) with
  | false => rfl
  | true => have := lT_one hs hq; rw [h1] at this; cases this
theorem gv_in {w h : Nat} {M : Nat → Nat → Nat} {i j v : Nat} (hi : i < 2147483648) (hj : j < 2147483648) (hv : v ≠ 0) (e : gv w h M i j = v) : pInner w h (nI i) (nI j) = true := by
  rw [pInner_nI hi hj]
  unfold gv at e
  split at e
  · assumption
  · exact absurd e.symm hv
set_option maxHeartbeats 1000000 in
set_option maxRecDepth 100000 in
theorem c_X8_walkOne {S : am_S} (hs : sk S) {I : am_I} {w h y c bb : Nat} {M : Nat → Nat → Nat} (w1 : 1 ≤ w) (w8 : w ≤ 8) (h1 : 1 ≤ h) (h8 : h ≤ 8) (hok : okM w h M) (hI : isGr I 0 w h M) (hy : y < 4 * w * h) (hc : I 44 4 = nI c) (hc8 : c < 256) (hbT : bb + per w h M (lst w y) ≤ 256) : am_Mt 2 Y_X8_walkOne (0, 0) [.ref 44, .int (nI y), .int (nI bb)] S I (am_q (some (.int (nI (bb + per w h M (lst w y))))) S (fwI 49 50 51 w h M (lst w y) c bb I (per w h M (lst w y)))) := by
  have h256 := sq_bound w8 h8
  have hi0 := lst_inv (h := h) w1 hy
  have hT := per_spec (M := M) hi0
  have BODY : ∀ k, k < per w h M (lst w y) → (am_Rn 2 Y_X8_walkOne (0, 0) 70 [some (.ref 44), some (.int (nI y)), some (.int (nI bb)), some (.int (nI (2 * w))), none, none, some (.int (sg ((lt w h M (k + 1) (lst w y)).2.2.1))), some (.int (sg ((lt w h M (k + 1) (lst w y)).2.2.2))), some (.int (nI (lI (lV (lt w h M (k + 1) (lst w y)))))), some (.int (nI (lJ (lV (lt w h M (k + 1) (lst w y)))))), some (.int (nI (bb + (k + 1)))), some (.int (nI (sn w (lt w h M (k + 1) (lst w y))))), some (.int (nI 0)), none] [] S (fwI 49 50 51 w h M (lst w y) c bb I (k + 1)) (am_q (some (.int (nI (bb + per w h M (lst w y))))) S (fwI 49 50 51 w h M (lst w y) c bb I (per w h M (lst w y))))) → ∀ f0 : Int32, am_Rn 2 Y_X8_walkOne (0, 0) 81 [some (.ref 44), some (.int (nI y)), some (.int (nI bb)), some (.int (nI (2 * w))), none, none, some (.int (sg ((lt w h M k (lst w y)).2.2.1))), some (.int (sg ((lt w h M k (lst w y)).2.2.2))), some (.int (nI (lI (lV (lt w h M k (lst w y)))))), some (.int (nI (lJ (lV (lt w h M k (lst w y)))))), some (.int (nI (bb + k))), some (.int (nI (sn w (lt w h M k (lst w y))))), some (.int f0), none] [] S (fwI 49 50 51 w h M (lst w y) c bb I k) (am_q (some (.int (nI (bb + per w h M (lst w y))))) S (fwI 49 50 51 w h M (lst w y) c bb I (per w h M (lst w y)))) := by
    intro k hkT ih f0
    obtain ⟨s, e_s⟩ : ∃ s, lt w h M k (lst w y) = s := ⟨_, rfl⟩
    have hsi : lInv w h s := by rw [← e_s]; exact lt_inv hi0 k
    have hsq : sn w s < 4 * w * h := sn_lt hsi
    rw [e_s]
    have e_s1 : lt w h M (k + 1) (lst w y) = lF w h M s := by rw [← e_s]; rfl
    have v4 : (fwI 49 50 51 w h M (lst w y) c bb I k) 44 4 = nI c := by rw [fwI_o (by decide) (by decide) (by decide)]; exact hc
    have vG : isGr (am_up (am_up (am_up (fwI 49 50 51 w h M (lst w y) c bb I k) 49 (sn w s) (nI c)) 50 (sn w s) (nI k)) 51 (bb + k) (nI (sn w s))) 0 w h M := ⟨by simp only [am_up_a _ _ (show (45 : Nat) ≠ 49 by decide), am_up_a _ _ (show (45 : Nat) ≠ 50 by decide), am_up_a _ _ (show (45 : Nat) ≠ 51 by decide)]; rw [fwI_o (by decide) (by decide) (by decide)]; exact hI.1, by simp only [am_up_a _ _ (show (46 : Nat) ≠ 49 by decide), am_up_a _ _ (show (46 : Nat) ≠ 50 by decide), am_up_a _ _ (show (46 : Nat) ≠ 51 by decide)]; rw [fwI_o (by decide) (by decide) (by decide)]; exact hI.2.1, fun i j hi hj => by simp only [am_up_a _ _ (show (47 : Nat) ≠ 49 by decide), am_up_a _ _ (show (47 : Nat) ≠ 50 by decide), am_up_a _ _ (show (47 : Nat) ≠ 51 by decide)]; rw [fwI_o (by decide) (by decide) (by decide)]; exact hI.2.2 i j hi hj⟩
    have hpt := lInv_pt hsi
    have hgv := gv_le hok (lI s) (lJ s)
    have J252 : am_Rn 2 Y_X8_walkOne (0, 0) 252 [some (.ref 44), some (.int (nI y)), some (.int (nI bb)), some (.int (nI (2 * w))), none, none, some (.int (sg (lR w h M s))), some (.int (sg (lD w h M s))), some (.int (nI (lI s))), some (.int (nI (lJ s))), some (.int (nI (bb + k + 1))), some (.int (nI (sn w s))), some (.int (nI 0)), some (.int (nI (gv w h M (lI s) (lJ s))))] [.int (nI ((lF w h M s).1)), .int (nI (2 * w * (lF w h M s).2.1))] S (am_up (am_up (am_up (fwI 49 50 51 w h M (lst w y) c bb I k) 49 (sn w s) (nI c)) 50 (sn w s) (nI k)) 51 (bb + k) (nI (sn w s))) (am_q (some (.int (nI (bb + per w h M (lst w y))))) S (fwI 49 50 51 w h M (lst w y) c bb I (per w h M (lst w y)))) := by
      refine rn_iadd dX8_walkOne_252 ?_
      refine rn_top (nI_add _ _) ?_
      refine rn_istore (ls' := [some (.ref 44), some (.int (nI y)), some (.int (nI bb)), some (.int (nI (2 * w))), none, none, some (.int (sg (lR w h M s))), some (.int (sg (lD w h M s))), some (.int (nI (lI s))), some (.int (nI (lJ s))), some (.int (nI (bb + k + 1))), some (.int (nI ((2 * w * (lF w h M s).2.1) + ((lF w h M s).1)))), some (.int (nI 0)), some (.int (nI (gv w h M (lI s) (lJ s))))]) dX8_walkOne_253 (by decide) rfl rfl ?_
      refine rn_goto (tgt := 70) dX8_walkOne_255 (by decide) ?_
      refine rn_ls (ls' := [some (.ref 44), some (.int (nI y)), some (.int (nI bb)), some (.int (nI (2 * w))), none, none, some (.int (sg (lR w h M s))), some (.int (sg (lD w h M s))), some (.int (nI (lI s))), some (.int (nI (lJ s))), some (.int (nI (bb + k + 1))), some (.int (nI ((2 * w * (lF w h M s).2.1) + ((lF w h M s).1)))), some (.int (nI 0)), none]) rfl (fun k x h => by rcases k with _ | _ | _ | _ | _ | _ | _ | _ | _ | _ | _ | _ | _ | _ | k <;> first | exact h | (simp at h)) ?_
      refine rn_I (I' := (fwI 49 50 51 w h M (lst w y) c bb I (k + 1))) (by simp only [fwI, e_s]) ?_
      have ih1 := ih
      rw [e_s1, (lF_pt hsi).1, (lF_pt hsi).2] at ih1
      exact ih1
    have J237 : am_Rn 2 Y_X8_walkOne (0, 0) 237 [some (.ref 44), some (.int (nI y)), some (.int (nI bb)), some (.int (nI (2 * w))), none, none, some (.int (sg (lR w h M s))), some (.int (sg (lD w h M s))), some (.int (nI (lI s))), some (.int (nI (lJ s))), some (.int (nI (bb + k + 1))), some (.int (nI (sn w s))), some (.int (nI 0)), some (.int (nI (gv w h M (lI s) (lJ s))))] [.int (nI ((lF w h M s).2.1)), .int (nI (2 * w))] S (am_up (am_up (am_up (fwI 49 50 51 w h M (lst w y) c bb I k) 49 (sn w s) (nI c)) 50 (sn w s) (nI k)) 51 (bb + k) (nI (sn w s))) (am_q (some (.int (nI (bb + per w h M (lst w y))))) S (fwI 49 50 51 w h M (lst w y) c bb I (per w h M (lst w y)))) := by
      refine rn_imul dX8_walkOne_237 ?_
      refine rn_top (pk_mul _ _) ?_
      refine rn_iload dX8_walkOne_238 rfl ?_
      refine rn_if_leS (tgt := 248) dX8_walkOne_240 (by decide) (fun c_240 => ?_) (fun c_240 => ?_)
      · have hp9 := lR_pos hsi c_240
        refine rn_iload dX8_walkOne_248 rfl ?_
        refine rn_iconst (v := nI 1) dX8_walkOne_250 (by decide) ?_
        refine rn_isub dX8_walkOne_251 ?_
        refine rn_top (pk_sub (by omega)) ?_
        refine rn_top (y := nI (lF w h M s).1) (by rw [show (lF w h M s).1 = (lI s) - 1 from (if_neg (by rw [c_240]; decide))]) ?_
        exact J252
      · refine rn_iload dX8_walkOne_243 rfl ?_
        refine rn_goto (tgt := 252) dX8_walkOne_245 (by decide) ?_
        refine rn_top (y := nI (lF w h M s).1) (by rw [show (lF w h M s).1 = lI s from if_pos c_240]) ?_
        exact J252
    have J222 : am_Rn 2 Y_X8_walkOne (0, 0) 222 [some (.ref 44), some (.int (nI y)), some (.int (nI bb)), some (.int (nI (2 * w))), none, none, some (.int (sg (lR w h M s))), some (.int (sg (lD w h M s))), some (.int (nI (lI s))), some (.int (nI (lJ s))), some (.int (nI (bb + k + 1))), some (.int (nI (sn w s))), some (.int (nI 0)), some (.int (nI (gv w h M (lI s) (lJ s))))] [] S (am_up (am_up (am_up (fwI 49 50 51 w h M (lst w y) c bb I k) 49 (sn w s) (nI c)) 50 (sn w s) (nI k)) 51 (bb + k) (nI (sn w s))) (am_q (some (.int (nI (bb + per w h M (lst w y))))) S (fwI 49 50 51 w h M (lst w y) c bb I (per w h M (lst w y)))) := by
      refine rn_iload_n dX8_walkOne_222 rfl rfl ?_
      refine rn_iload dX8_walkOne_223 rfl ?_
      refine rn_if_leS (tgt := 233) dX8_walkOne_225 (by decide) (fun c_225 => ?_) (fun c_225 => ?_)
      · have hp9 := lD_pos hsi c_225
        refine rn_iload dX8_walkOne_233 rfl ?_
        refine rn_iconst (v := nI 1) dX8_walkOne_235 (by decide) ?_
        refine rn_isub dX8_walkOne_236 ?_
        refine rn_top (pk_sub (by omega)) ?_
        refine rn_top (y := nI (lF w h M s).2.1) (by rw [show (lF w h M s).2.1 = (lJ s) - 1 from (if_neg (by rw [c_225]; decide))]) ?_
        exact J237
      · refine rn_iload dX8_walkOne_228 rfl ?_
        refine rn_goto (tgt := 237) dX8_walkOne_230 (by decide) ?_
        refine rn_top (y := nI (lF w h M s).2.1) (by rw [show (lF w h M s).2.1 = lJ s from if_pos c_225]) ?_
        exact J237
    have J181 : am_Rn 2 Y_X8_walkOne (0, 0) 181 [some (.ref 44), some (.int (nI y)), some (.int (nI bb)), some (.int (nI (2 * w))), none, none, some (.int (sg (lR w h M s))), some (.int (sg s.2.2.2)), some (.int (nI (lI s))), some (.int (nI (lJ s))), some (.int (nI (bb + k + 1))), some (.int (nI (sn w s))), some (.int (nI 0)), some (.int (nI (gv w h M (lI s) (lJ s))))] [] S (am_up (am_up (am_up (fwI 49 50 51 w h M (lst w y) c bb I k) 49 (sn w s) (nI c)) 50 (sn w s) (nI k)) 51 (bb + k) (nI (sn w s))) (am_q (some (.int (nI (bb + per w h M (lst w y))))) S (fwI 49 50 51 w h M (lst w y) c bb I (per w h M (lst w y)))) := by
      refine rn_iload dX8_walkOne_181 rfl ?_
      refine rn_if_eqN (tgt := 217) dX8_walkOne_183 (by decide) (by omega) (fun c_183 => ?_) (fun c_183 => ?_)
      · refine rn_iload dX8_walkOne_217 rfl ?_
        refine rn_ineg dX8_walkOne_219 ?_
        refine rn_top (sg_neg _) ?_
        refine rn_istore (ls' := [some (.ref 44), some (.int (nI y)), some (.int (nI bb)), some (.int (nI (2 * w))), none, none, some (.int (sg (lR w h M s))), some (.int (sg (!s.2.2.2))), some (.int (nI (lI s))), some (.int (nI (lJ s))), some (.int (nI (bb + k + 1))), some (.int (nI (sn w s))), some (.int (nI 0)), some (.int (nI (gv w h M (lI s) (lJ s))))]) dX8_walkOne_220 (by decide) rfl rfl ?_
        have ty : lTy w h M (lI s) (lJ s) = true := decide_eq_true (by omega)
        have eD : lD w h M s = !s.2.2.2 := by unfold lD; rw [lT_two hsi ty, if_neg (by decide), if_pos ty]
        rw [eD] at J222
        exact J222
      · refine rn_iload dX8_walkOne_186 rfl ?_
        refine rn_iconst (v := nI 2) dX8_walkOne_188 (by decide) ?_
        refine rn_aload_n dX8_walkOne_189 rfl rfl ?_
        refine rn_getR (r := 46) dX8_walkOne_190 fd_8_13 (sk_l hs 44 (by decide)) (sk_k44 hs) rfl (sk_r44_1 hs) ?_
        refine rn_iconst (v := nI 0) dX8_walkOne_193 (by decide) ?_
        refine rn_ialoadN dX8_walkOne_194 (sk_l hs 46 (by decide)) (sk_k46 hs) (by omega) (by omega) ?_
        refine rn_top (y := nI h) (vG.2.1) ?_
        refine rn_imul dX8_walkOne_195 ?_
        refine rn_top (pk_mul _ _) ?_
        refine rn_icmp_eqN (tgt := 217) dX8_walkOne_196 (by decide) (by omega) (by omega) (fun c_196 => ?_) (fun c_196 => ?_)
        · refine rn_iload dX8_walkOne_217 rfl ?_
          refine rn_ineg dX8_walkOne_219 ?_
          refine rn_top (sg_neg _) ?_
          refine rn_istore (ls' := [some (.ref 44), some (.int (nI y)), some (.int (nI bb)), some (.int (nI (2 * w))), none, none, some (.int (sg (lR w h M s))), some (.int (sg (!s.2.2.2))), some (.int (nI (lI s))), some (.int (nI (lJ s))), some (.int (nI (bb + k + 1))), some (.int (nI (sn w s))), some (.int (nI 0)), some (.int (nI (gv w h M (lI s) (lJ s))))]) dX8_walkOne_220 (by decide) rfl rfl ?_
          have ty : lTy w h M (lI s) (lJ s) = true := decide_eq_true (by omega)
          have eD : lD w h M s = !s.2.2.2 := by unfold lD; rw [lT_two hsi ty, if_neg (by decide), if_pos ty]
          rw [eD] at J222
          exact J222
        · refine rn_iload dX8_walkOne_199 rfl ?_
          refine rn_iconst (v := nI 2) dX8_walkOne_201 (by decide) ?_
          refine rn_icmp_neN (tgt := 222) dX8_walkOne_202 (by decide) (by omega) (by omega) (fun c_202 => ?_) (fun c_202 => ?_)
          · have ty : lTy w h M (lI s) (lJ s) = false := decide_eq_false (by omega)
            have eD : lD w h M s = s.2.2.2 := by unfold lD; rw [ty]; split <;> simp
            rw [eD] at J222
            exact J222
          · refine rn_aload_n dX8_walkOne_205 rfl rfl ?_
            refine rn_iconst (v := nI 0) dX8_walkOne_206 (by decide) ?_
            refine rn_iload dX8_walkOne_207 rfl ?_
            refine rn_iload dX8_walkOne_209 rfl ?_
            refine rn_callVq (st := []) dX8_walkOne_211 cf_8_74 (c_X8_isInner hs (g := 0) (by decide) vG.1 vG.2.1 w1 w8 h1 h8 _ _) (by decide) (sk_l hs 44 (by decide)) (sk_k44 hs) rfl rfl (Nat.le_of_ble_eq_true rfl) ?_
            refine rn_if_eqB (tgt := 222) dX8_walkOne_214 (by decide) (fun c_214 => ?_) (fun c_214 => ?_)
            · exact absurd c_214 (by rw [gv_in (by omega) (by omega) (by decide) (show gv w h M (lI s) (lJ s) = 2 by omega)]; decide)
            · refine rn_iload dX8_walkOne_217 rfl ?_
              refine rn_ineg dX8_walkOne_219 ?_
              refine rn_top (sg_neg _) ?_
              refine rn_istore (ls' := [some (.ref 44), some (.int (nI y)), some (.int (nI bb)), some (.int (nI (2 * w))), none, none, some (.int (sg (lR w h M s))), some (.int (sg (!s.2.2.2))), some (.int (nI (lI s))), some (.int (nI (lJ s))), some (.int (nI (bb + k + 1))), some (.int (nI (sn w s))), some (.int (nI 0)), some (.int (nI (gv w h M (lI s) (lJ s))))]) dX8_walkOne_220 (by decide) rfl rfl ?_
              have ty : lTy w h M (lI s) (lJ s) = true := decide_eq_true (by omega)
              have eD : lD w h M s = !s.2.2.2 := by unfold lD; rw [lT_two hsi ty, if_neg (by decide), if_pos ty]
              rw [eD] at J222
              exact J222
    refine rn_iconst (v := nI 0) dX8_walkOne_81 (by decide) ?_
    refine rn_istore (ls' := [some (.ref 44), some (.int (nI y)), some (.int (nI bb)), some (.int (nI (2 * w))), none, none, some (.int (sg s.2.2.1)), some (.int (sg s.2.2.2)), some (.int (nI (lI (lV s)))), some (.int (nI (lJ (lV s)))), some (.int (nI (bb + k))), some (.int (nI (sn w s))), some (.int (nI 0)), none]) dX8_walkOne_82 (by decide) rfl rfl ?_
    refine rn_aload_n dX8_walkOne_84 rfl rfl ?_
    refine rn_getR (r := 49) dX8_walkOne_85 fd_8_24 (sk_l hs 44 (by decide)) (sk_k44 hs) rfl (sk_r44_5 hs) ?_
    refine rn_iload dX8_walkOne_88 rfl ?_
    refine rn_aload_n dX8_walkOne_90 rfl rfl ?_
    refine rn_getI dX8_walkOne_91 fd_8_85 (sk_l hs 44 (by decide)) (sk_k44 hs) rfl ?_
    refine rn_top (y := nI c) (v4) ?_
    refine rn_iastoreN dX8_walkOne_94 (sk_l hs 49 (by decide)) (sk_k49 hs) (by omega) (by omega) ?_
    refine rn_aload_n dX8_walkOne_95 rfl rfl ?_
    refine rn_getR (r := 50) dX8_walkOne_96 fd_8_27 (sk_l hs 44 (by decide)) (sk_k44 hs) rfl (sk_r44_6 hs) ?_
    refine rn_iload dX8_walkOne_99 rfl ?_
    refine rn_iload dX8_walkOne_101 rfl ?_
    refine rn_iload_n dX8_walkOne_103 rfl rfl ?_
    refine rn_isub dX8_walkOne_104 ?_
    refine rn_top (pk_sub (by omega)) ?_
    refine rn_top (y := nI k) (by congr 1; omega) ?_
    refine rn_iastoreN dX8_walkOne_105 (sk_l hs 50 (by decide)) (sk_k50 hs) (by omega) (by omega) ?_
    refine rn_aload_n dX8_walkOne_106 rfl rfl ?_
    refine rn_getR (r := 51) dX8_walkOne_107 fd_8_30 (sk_l hs 44 (by decide)) (sk_k44 hs) rfl (sk_r44_7 hs) ?_
    refine rn_iload dX8_walkOne_110 rfl ?_
    refine rn_iload dX8_walkOne_112 rfl ?_
    refine rn_iastoreN dX8_walkOne_114 (sk_l hs 51 (by decide)) (sk_k51 hs) (by omega) (by omega) ?_
    refine rn_iinc (v := nI ((bb + k) + 1)) (ls' := [some (.ref 44), some (.int (nI y)), some (.int (nI bb)), some (.int (nI (2 * w))), none, none, some (.int (sg s.2.2.1)), some (.int (sg s.2.2.2)), some (.int (nI (lI (lV s)))), some (.int (nI (lJ (lV s)))), some (.int (nI ((bb + k) + 1))), some (.int (nI (sn w s))), some (.int (nI 0)), none]) dX8_walkOne_115 rfl (nI_add _ 1) (by decide) rfl rfl ?_
    refine rn_iload dX8_walkOne_118 rfl ?_
    refine rn_iload dX8_walkOne_120 rfl ?_
    refine rn_iadd dX8_walkOne_122 ?_
    refine rn_top (y := nI (lI s)) (pt_addI s) ?_
    refine rn_istore (ls' := [some (.ref 44), some (.int (nI y)), some (.int (nI bb)), some (.int (nI (2 * w))), none, none, some (.int (sg s.2.2.1)), some (.int (sg s.2.2.2)), some (.int (nI (lI s))), some (.int (nI (lJ (lV s)))), some (.int (nI ((bb + k) + 1))), some (.int (nI (sn w s))), some (.int (nI 0)), none]) dX8_walkOne_123 (by decide) rfl rfl ?_
    refine rn_iload dX8_walkOne_125 rfl ?_
    refine rn_iload dX8_walkOne_127 rfl ?_
    refine rn_iadd dX8_walkOne_129 ?_
    refine rn_top (y := nI (lJ s)) (pt_addJ s) ?_
    refine rn_istore (ls' := [some (.ref 44), some (.int (nI y)), some (.int (nI bb)), some (.int (nI (2 * w))), none, none, some (.int (sg s.2.2.1)), some (.int (sg s.2.2.2)), some (.int (nI (lI s))), some (.int (nI (lJ s))), some (.int (nI ((bb + k) + 1))), some (.int (nI (sn w s))), some (.int (nI 0)), none]) dX8_walkOne_130 (by decide) rfl rfl ?_
    refine rn_aload_n dX8_walkOne_132 rfl rfl ?_
    refine rn_getR (r := 47) dX8_walkOne_133 fd_8_16 (sk_l hs 44 (by decide)) (sk_k44 hs) rfl (sk_r44_2 hs) ?_
    refine rn_iconst (v := nI 0) dX8_walkOne_136 (by decide) ?_
    refine rn_iload dX8_walkOne_137 rfl ?_
    refine rn_iload dX8_walkOne_139 rfl ?_
    refine rn_callSq (st := [.ref 47]) dX8_walkOne_141 cf_8_77 (c_X8_cell S (am_up (am_up (am_up (fwI 49 50 51 w h M (lst w y) c bb I k) 49 (sn w s) (nI c)) 50 (sn w s) (nI k)) 51 (bb + k) (nI (sn w s))) _ _ _) (by decide) rfl rfl (Nat.le_of_ble_eq_true rfl) ?_
    refine rn_baloadN dX8_walkOne_144 (sk_l hs 47 (by decide)) (sk_k47 hs) (by decide) (by omega) (by omega) ?_
    refine rn_top (y := nI (gv w h M (lI s) (lJ s))) (vG.2.2 _ _ (by omega) (by omega)) ?_
    refine rn_istore (ls' := [some (.ref 44), some (.int (nI y)), some (.int (nI bb)), some (.int (nI (2 * w))), none, none, some (.int (sg s.2.2.1)), some (.int (sg s.2.2.2)), some (.int (nI (lI s))), some (.int (nI (lJ s))), some (.int (nI ((bb + k) + 1))), some (.int (nI (sn w s))), some (.int (nI 0)), some (.int (nI (gv w h M (lI s) (lJ s))))]) dX8_walkOne_145 (by decide) rfl rfl ?_
    refine rn_iload dX8_walkOne_147 rfl ?_
    refine rn_if_eqN (tgt := 176) dX8_walkOne_149 (by decide) (by omega) (fun c_149 => ?_) (fun c_149 => ?_)
    · refine rn_iload dX8_walkOne_176 rfl ?_
      refine rn_ineg dX8_walkOne_178 ?_
      refine rn_top (sg_neg _) ?_
      refine rn_istore (ls' := [some (.ref 44), some (.int (nI y)), some (.int (nI bb)), some (.int (nI (2 * w))), none, none, some (.int (sg (!s.2.2.1))), some (.int (sg s.2.2.2)), some (.int (nI (lI s))), some (.int (nI (lJ s))), some (.int (nI ((bb + k) + 1))), some (.int (nI (sn w s))), some (.int (nI 0)), some (.int (nI (gv w h M (lI s) (lJ s))))]) dX8_walkOne_179 (by decide) rfl rfl ?_
      have tx : lTx w h M (lI s) (lJ s) = true := decide_eq_true (by omega)
      have eR : lR w h M s = !s.2.2.1 := if_pos tx
      rw [eR] at J181
      exact J181
    · refine rn_iload dX8_walkOne_152 rfl ?_
      refine rn_iload_n dX8_walkOne_154 rfl rfl ?_
      refine rn_icmp_eqN (tgt := 176) dX8_walkOne_155 (by decide) (by omega) (by omega) (fun c_155 => ?_) (fun c_155 => ?_)
      · refine rn_iload dX8_walkOne_176 rfl ?_
        refine rn_ineg dX8_walkOne_178 ?_
        refine rn_top (sg_neg _) ?_
        refine rn_istore (ls' := [some (.ref 44), some (.int (nI y)), some (.int (nI bb)), some (.int (nI (2 * w))), none, none, some (.int (sg (!s.2.2.1))), some (.int (sg s.2.2.2)), some (.int (nI (lI s))), some (.int (nI (lJ s))), some (.int (nI ((bb + k) + 1))), some (.int (nI (sn w s))), some (.int (nI 0)), some (.int (nI (gv w h M (lI s) (lJ s))))]) dX8_walkOne_179 (by decide) rfl rfl ?_
        have tx : lTx w h M (lI s) (lJ s) = true := decide_eq_true (by omega)
        have eR : lR w h M s = !s.2.2.1 := if_pos tx
        rw [eR] at J181
        exact J181
      · refine rn_iload dX8_walkOne_158 rfl ?_
        refine rn_iconst (v := nI 1) dX8_walkOne_160 (by decide) ?_
        refine rn_icmp_neN (tgt := 181) dX8_walkOne_161 (by decide) (by omega) (by omega) (fun c_161 => ?_) (fun c_161 => ?_)
        · have tx : lTx w h M (lI s) (lJ s) = false := decide_eq_false (by omega)
          have eR : lR w h M s = s.2.2.1 := if_neg (by rw [tx]; decide)
          rw [eR] at J181
          exact J181
        · refine rn_aload_n dX8_walkOne_164 rfl rfl ?_
          refine rn_iconst (v := nI 0) dX8_walkOne_165 (by decide) ?_
          refine rn_iload dX8_walkOne_166 rfl ?_
          refine rn_iload dX8_walkOne_168 rfl ?_
          refine rn_callVq (st := []) dX8_walkOne_170 cf_8_74 (c_X8_isInner hs (g := 0) (by decide) vG.1 vG.2.1 w1 w8 h1 h8 _ _) (by decide) (sk_l hs 44 (by decide)) (sk_k44 hs) rfl rfl (Nat.le_of_ble_eq_true rfl) ?_
          refine rn_if_eqB (tgt := 181) dX8_walkOne_173 (by decide) (fun c_173 => ?_) (fun c_173 => ?_)
          · exact absurd c_173 (by rw [gv_in (by omega) (by omega) (by decide) (show gv w h M (lI s) (lJ s) = 1 by omega)]; decide)
          · refine rn_iload dX8_walkOne_176 rfl ?_
            refine rn_ineg dX8_walkOne_178 ?_
            refine rn_top (sg_neg _) ?_
            refine rn_istore (ls' := [some (.ref 44), some (.int (nI y)), some (.int (nI bb)), some (.int (nI (2 * w))), none, none, some (.int (sg (!s.2.2.1))), some (.int (sg s.2.2.2)), some (.int (nI (lI s))), some (.int (nI (lJ s))), some (.int (nI ((bb + k) + 1))), some (.int (nI (sn w s))), some (.int (nI 0)), some (.int (nI (gv w h M (lI s) (lJ s))))]) dX8_walkOne_179 (by decide) rfl rfl ?_
            have tx : lTx w h M (lI s) (lJ s) = true := decide_eq_true (by omega)
            have eR : lR w h M s = !s.2.2.1 := if_pos tx
            rw [eR] at J181
            exact J181
  have LOOP : ∀ k, k ≤ per w h M (lst w y) → 1 ≤ k → am_Rn 2 Y_X8_walkOne (0, 0) 70 [some (.ref 44), some (.int (nI y)), some (.int (nI bb)), some (.int (nI (2 * w))), none, none, some (.int (sg ((lt w h M k (lst w y)).2.2.1))), some (.int (sg ((lt w h M k (lst w y)).2.2.2))), some (.int (nI (lI (lV (lt w h M k (lst w y)))))), some (.int (nI (lJ (lV (lt w h M k (lst w y)))))), some (.int (nI (bb + k))), some (.int (nI (sn w (lt w h M k (lst w y))))), some (.int (nI 0)), none] [] S (fwI 49 50 51 w h M (lst w y) c bb I k) (am_q (some (.int (nI (bb + per w h M (lst w y))))) S (fwI 49 50 51 w h M (lst w y) c bb I (per w h M (lst w y)))) := by
    refine am_loop (per w h M (lst w y)) (fun k hk ih hk1 => ?_)
    have hsq : sn w (lt w h M k (lst w y)) < 4 * w * h := sn_lt (lt_inv hi0 k)
    refine rn_iload dX8_walkOne_70 rfl ?_
    refine rn_if_neN (tgt := 81) dX8_walkOne_72 (by decide) (by omega) (fun c_72 => ?_) (fun c_72 => ?_)
    · exact absurd c_72 (by decide)
    · refine rn_iload dX8_walkOne_75 rfl ?_
      refine rn_iload_n dX8_walkOne_77 rfl rfl ?_
      refine rn_icmp_eqN (tgt := 258) dX8_walkOne_78 (by decide) (by omega) (by omega) (fun c_78 => ?_) (fun c_78 => ?_)
      · refine rn_iload dX8_walkOne_258 rfl ?_
        refine rn_ireturn dX8_walkOne_260 rfl (vp_nar_int _) ?_
        have ekT : k = per w h M (lst w y) := Classical.byContradiction (fun hn => by have h9 := lt_dist hi0 (show k < per w h M (lst w y) by omega) hT.1.1 (show sn w (lt w h M k (lst w y)) = sn w (lt w h M 0 (lst w y)) from c_78.trans (sn_lst y).symm); omega)
        rw [ekT]
        exact ⟨rfl, rfl, rfl⟩
      · have hkT : k < per w h M (lst w y) := Nat.lt_of_le_of_ne hk (fun e => c_78 (by rw [e, hT.1.2.2, sn_lst]))
        exact BODY k hkT (ih hkT (by omega)) _
  have J59 : am_Rn 2 Y_X8_walkOne (0, 0) 59 [some (.ref 44), some (.int (nI y)), some (.int (nI bb)), some (.int (nI (2 * w))), some (.int (nI (y % (2 * w)))), some (.int (nI (y / (2 * w)))), some (.int (nI 1)), some (.int (sg (decide ((y % (2 * w) + y / (2 * w)) % 2 = 1)))), some (.int (nI (y % (2 * w)))), none, none, none, none, none] [.int (nI (lJ (lV (lst w y))))] S I (am_q (some (.int (nI (bb + per w h M (lst w y))))) S (fwI 49 50 51 w h M (lst w y) c bb I (per w h M (lst w y)))) := by
    refine rn_istore (ls' := [some (.ref 44), some (.int (nI y)), some (.int (nI bb)), some (.int (nI (2 * w))), some (.int (nI (y % (2 * w)))), some (.int (nI (y / (2 * w)))), some (.int (nI 1)), some (.int (sg (decide ((y % (2 * w) + y / (2 * w)) % 2 = 1)))), some (.int (nI (y % (2 * w)))), some (.int (nI (lJ (lV (lst w y))))), none, none, none, none]) dX8_walkOne_59 (by decide) rfl rfl ?_
    refine rn_iload_n dX8_walkOne_61 rfl rfl ?_
    refine rn_istore (ls' := [some (.ref 44), some (.int (nI y)), some (.int (nI bb)), some (.int (nI (2 * w))), some (.int (nI (y % (2 * w)))), some (.int (nI (y / (2 * w)))), some (.int (nI 1)), some (.int (sg (decide ((y % (2 * w) + y / (2 * w)) % 2 = 1)))), some (.int (nI (y % (2 * w)))), some (.int (nI (lJ (lV (lst w y))))), some (.int (nI bb)), none, none, none]) dX8_walkOne_62 (by decide) rfl rfl ?_
    refine rn_iload_n dX8_walkOne_64 rfl rfl ?_
    refine rn_istore (ls' := [some (.ref 44), some (.int (nI y)), some (.int (nI bb)), some (.int (nI (2 * w))), some (.int (nI (y % (2 * w)))), some (.int (nI (y / (2 * w)))), some (.int (nI 1)), some (.int (sg (decide ((y % (2 * w) + y / (2 * w)) % 2 = 1)))), some (.int (nI (y % (2 * w)))), some (.int (nI (lJ (lV (lst w y))))), some (.int (nI bb)), some (.int (nI y)), none, none]) dX8_walkOne_65 (by decide) rfl rfl ?_
    refine rn_iconst (v := nI 1) dX8_walkOne_67 (by decide) ?_
    refine rn_istore (ls' := [some (.ref 44), some (.int (nI y)), some (.int (nI bb)), some (.int (nI (2 * w))), some (.int (nI (y % (2 * w)))), some (.int (nI (y / (2 * w)))), some (.int (nI 1)), some (.int (sg (decide ((y % (2 * w) + y / (2 * w)) % 2 = 1)))), some (.int (nI (y % (2 * w)))), some (.int (nI (lJ (lV (lst w y))))), some (.int (nI bb)), some (.int (nI y)), some (.int (nI 1)), none]) dX8_walkOne_68 (by decide) rfl rfl ?_
    refine rn_iload dX8_walkOne_70 rfl ?_
    refine rn_if_neN (tgt := 81) dX8_walkOne_72 (by decide) (by omega) (fun c_72 => ?_) (fun c_72 => ?_)
    · refine rn_ls (ls' := [some (.ref 44), some (.int (nI y)), some (.int (nI bb)), some (.int (nI (2 * w))), none, none, some (.int (nI 1)), some (.int (sg (decide ((y % (2 * w) + y / (2 * w)) % 2 = 1)))), some (.int (nI (y % (2 * w)))), some (.int (nI (lJ (lV (lst w y))))), some (.int (nI bb)), some (.int (nI y)), some (.int (nI 1)), none]) rfl (fun k x h => by rcases k with _ | _ | _ | _ | _ | _ | _ | _ | _ | _ | _ | _ | _ | _ | k <;> first | exact h | (simp at h)) ?_
      have hb0 := BODY 0 hT.1.1 (LOOP 1 hT.1.1 (Nat.le_refl 1)) (nI 1)
      rw [show sn w (lt w h M 0 (lst w y)) = y from sn_lst y] at hb0
      exact hb0
    · exact absurd c_72 (by decide)
  have hyb : y / (2 * w) < 2 * h := hi0.2.1
  have hya : y % (2 * w) < 2 * w := hi0.1
  have J38 : am_Rn 2 Y_X8_walkOne (0, 0) 38 [some (.ref 44), some (.int (nI y)), some (.int (nI bb)), some (.int (nI (2 * w))), some (.int (nI (y % (2 * w)))), some (.int (nI (y / (2 * w)))), some (.int (nI 1)), none, none, none, none, none, none, none] [.int (sg (decide ((y % (2 * w) + y / (2 * w)) % 2 = 1)))] S I (am_q (some (.int (nI (bb + per w h M (lst w y))))) S (fwI 49 50 51 w h M (lst w y) c bb I (per w h M (lst w y)))) := by
    refine rn_istore (ls' := [some (.ref 44), some (.int (nI y)), some (.int (nI bb)), some (.int (nI (2 * w))), some (.int (nI (y % (2 * w)))), some (.int (nI (y / (2 * w)))), some (.int (nI 1)), some (.int (sg (decide ((y % (2 * w) + y / (2 * w)) % 2 = 1)))), none, none, none, none, none, none]) dX8_walkOne_38 (by decide) rfl rfl ?_
    refine rn_iload dX8_walkOne_40 rfl ?_
    refine rn_istore (ls' := [some (.ref 44), some (.int (nI y)), some (.int (nI bb)), some (.int (nI (2 * w))), some (.int (nI (y % (2 * w)))), some (.int (nI (y / (2 * w)))), some (.int (nI 1)), some (.int (sg (decide ((y % (2 * w) + y / (2 * w)) % 2 = 1)))), some (.int (nI (y % (2 * w)))), none, none, none, none, none]) dX8_walkOne_42 (by decide) rfl rfl ?_
    refine rn_iload dX8_walkOne_44 rfl ?_
    refine rn_iconst (v := nI 1) dX8_walkOne_46 (by decide) ?_
    refine rn_icmp_ne (tgt := 55) dX8_walkOne_47 (by decide) (fun c_47 => ?_) (fun c_47 => ?_)
    · refine rn_iload dX8_walkOne_55 rfl ?_
      refine rn_iconst (v := nI 1) dX8_walkOne_57 (by decide) ?_
      refine rn_iadd dX8_walkOne_58 ?_
      refine rn_top (nI_add _ _) ?_
      have c_47' : ¬ (y % (2 * w) + y / (2 * w)) % 2 = 1 := fun q => c_47 ((sg_one _).mpr (decide_eq_true q))
      refine rn_top (y := nI (lJ (lV (lst w y)))) (by rw [show lJ (lV (lst w y)) = (y / (2 * w)) + 1 from (by simp [lJ, lV, lst, c_47'])]) ?_
      exact J59
    · refine rn_iload dX8_walkOne_50 rfl ?_
      refine rn_goto (tgt := 59) dX8_walkOne_52 (by decide) ?_
      have c_47' : (y % (2 * w) + y / (2 * w)) % 2 = 1 := of_decide_eq_true ((sg_one _).mp c_47)
      refine rn_top (y := nI (lJ (lV (lst w y)))) (by rw [show lJ (lV (lst w y)) = y / (2 * w) from (by simp [lJ, lV, lst, c_47'])]) ?_
      exact J59
  refine am_mt ⟨by decide +kernel, rfl⟩ (Nat.le_of_ble_eq_true rfl) rfl ?_
  refine rn_iconst (v := nI 2) dX8_walkOne_0 (by decide) ?_
  refine rn_aload_n dX8_walkOne_1 rfl rfl ?_
  refine rn_getR (r := 45) dX8_walkOne_2 fd_8_7 (sk_l hs 44 (by decide)) (sk_k44 hs) rfl (sk_r44_0 hs) ?_
  refine rn_iconst (v := nI 0) dX8_walkOne_5 (by decide) ?_
  refine rn_ialoadN dX8_walkOne_6 (sk_l hs 45 (by decide)) (sk_k45 hs) (by omega) (by omega) ?_
  refine rn_top (y := nI w) (hI.1) ?_
  refine rn_imul dX8_walkOne_7 ?_
  refine rn_top (pk_mul _ _) ?_
  refine rn_istore_n (ls' := [some (.ref 44), some (.int (nI y)), some (.int (nI bb)), some (.int (nI (2 * w))), none, none, none, none, none, none, none, none, none, none]) dX8_walkOne_8 rfl (by decide) rfl rfl ?_
  refine rn_iload_n dX8_walkOne_9 rfl rfl ?_
  refine rn_iload_n dX8_walkOne_10 rfl rfl ?_
  refine rn_irem dX8_walkOne_11 (by rw [← nI_0, nI_eq (by omega) (by decide)]; omega) ?_
  refine rn_top (pk_rem (by omega) (by omega) (by omega)) ?_
  refine rn_istore (ls' := [some (.ref 44), some (.int (nI y)), some (.int (nI bb)), some (.int (nI (2 * w))), some (.int (nI (y % (2 * w)))), none, none, none, none, none, none, none, none, none]) dX8_walkOne_12 (by decide) rfl rfl ?_
  refine rn_iload_n dX8_walkOne_14 rfl rfl ?_
  refine rn_iload_n dX8_walkOne_15 rfl rfl ?_
  refine rn_idiv dX8_walkOne_16 (by rw [← nI_0, nI_eq (by omega) (by decide)]; omega) ?_
  refine rn_top (pk_div (by omega) (by omega) (by omega)) ?_
  refine rn_istore (ls' := [some (.ref 44), some (.int (nI y)), some (.int (nI bb)), some (.int (nI (2 * w))), some (.int (nI (y % (2 * w)))), some (.int (nI (y / (2 * w)))), none, none, none, none, none, none, none, none]) dX8_walkOne_17 (by decide) rfl rfl ?_
  refine rn_iconst (v := nI 1) dX8_walkOne_19 (by decide) ?_
  refine rn_istore (ls' := [some (.ref 44), some (.int (nI y)), some (.int (nI bb)), some (.int (nI (2 * w))), some (.int (nI (y % (2 * w)))), some (.int (nI (y / (2 * w)))), some (.int (nI 1)), none, none, none, none, none, none, none]) dX8_walkOne_20 (by decide) rfl rfl ?_
  refine rn_iload dX8_walkOne_22 rfl ?_
  refine rn_iload dX8_walkOne_24 rfl ?_
  refine rn_iadd dX8_walkOne_26 ?_
  refine rn_top (nI_add _ _) ?_
  refine rn_iconst (v := nI 2) dX8_walkOne_27 (by decide) ?_
  refine rn_irem dX8_walkOne_28 (by decide) ?_
  refine rn_top (pk_rem (by omega) (by omega) (by omega)) ?_
  refine rn_iconst (v := nI 1) dX8_walkOne_29 (by decide) ?_
  refine rn_icmp_neN (tgt := 37) dX8_walkOne_30 (by decide) (by omega) (by omega) (fun c_30 => ?_) (fun c_30 => ?_)
  · refine rn_iconst (v := (-1)) dX8_walkOne_37 (by decide) ?_
    refine rn_top (y := sg (decide ((y % (2 * w) + y / (2 * w)) % 2 = 1))) (sg_f (decide_eq_false (by omega))) ?_
    exact J38
  · refine rn_iconst (v := nI 1) dX8_walkOne_33 (by decide) ?_
    refine rn_goto (tgt := 38) dX8_walkOne_34 (by decide) ?_
    refine rn_top (y := sg (decide ((y % (2 * w) + y / (2 * w)) % 2 = 1))) (sg_t (decide_eq_true (by omega))) ?_
    exact J38
/-- the reference's rows of lines once the squares below s are through, and all else as it was -/
def FB (w h : Nat) (M : Nat → Nat → Nat) (I0 I : am_I) (s : Nat) : Prop := LF w h M I 49 50 51 52 s ∧ I 44 4 = nI (nl w h M s) ∧ (∀ b, b ≠ 44 → b ≠ 49 → b ≠ 50 → b ≠ 51 → b ≠ 52 → I b = I0 b) ∧ ∀ k, k ≠ 4 → I 44 k = I0 44 k
theorem FB_step {w h : Nat} {M : Nat → Nat → Nat} {I0 I : am_I} {s : Nat} (w1 : 1 ≤ w) (hs : s < 4 * w * h) (hl : lead w h M s) (hF : FB w h M I0 I s) : FB w h M I0 (am_up (fwI 49 50 51 w h M (lst w s) (nl w h M s) (bg w h M s) (am_up I 52 (nl w h M s) (nI (bg w h M s))) (per w h M (lst w s))) 44 4 (nI (nl w h M s + 1))) (s + 1) := by
  obtain ⟨h1, h2, h3, h4⟩ := hF
  have h1' : LF w h M (am_up I 52 (nl w h M s) (nI (bg w h M s))) 49 50 51 52 s := by
    refine ⟨fun x hx hv => by rw [am_up_a _ _ (by decide)]; exact h1.1 x hx hv, fun y k hy hly hk => by rw [am_up_a _ _ (by decide), am_up_a _ _ (by decide), am_up_a _ _ (by decide)]; exact h1.2.1 y k hy hly hk, fun y hy hly => ?_⟩
    rw [am_up_k _ _ (by have := nl_lead_lt hly hy; omega)]
    exact h1.2.2 y hy hly
  refine ⟨LF_step (by decide) (by decide) (by decide) w1 hs hl h1' ?_ ?_ ?_ ?_ ?_, ?_, ?_, ?_⟩
  · rw [am_up_a _ _ (by decide), fwI_o (by decide) (by decide) (by decide), am_up_at]
  · intro x hx
    rw [am_up_a _ _ (by decide), fwI_o (by decide) (by decide) (by decide)]
  · rw [am_up_a _ _ (by decide)]
  · rw [am_up_a _ _ (by decide)]
  · rw [am_up_a _ _ (by decide)]
  · rw [nl_s hl, am_up_at]
  · intro b b1 b2 b3 b4 b5
    rw [am_up_a _ _ b1, fwI_o b2 b3 b4, am_up_a _ _ b5]
    exact h3 b b1 b2 b3 b4 b5
  · intro k hk
    rw [am_up_k _ _ hk, fwI_o (by decide) (by decide) (by decide), am_up_a _ _ (by decide)]
    exact h4 k hk
theorem FB_skip {w h : Nat} {M : Nat → Nat → Nat} {I0 I : am_I} {s : Nat} (w1 : 1 ≤ w) (hs : s < 4 * w * h) (hl : ¬ lead w h M s) (hF : FB w h M I0 I s) : FB w h M I0 I (s + 1) := by
  obtain ⟨h1, h2, h3⟩ := hF
  exact ⟨LF_skip w1 hs hl h1, by rw [nl_n hl]; exact h2, h3⟩
set_option maxHeartbeats 1000000 in
set_option maxRecDepth 100000 in
theorem c_X8_walkAll {S : am_S} (hs : sk S) {I : am_I} {w h : Nat} {M : Nat → Nat → Nat} (w1 : 1 ≤ w) (w8 : w ≤ 8) (h1 : 1 ≤ h) (h8 : h ≤ 8) (hok : okM w h M) (hI : isGr I 0 w h M) : am_Mt 3 Y_X8_walkAll (0, 0) [.ref 44] S I (fun r S' I' => r = none ∧ S' = S ∧ FB w h M I I' (4 * w * h) ∧ I' 52 (nl w h M (4 * w * h)) = nI (bg w h M (4 * w * h))) := by
  have h256 := sq_bound w8 h8
  have LS : ∀ t, t ≤ 4 * w * h → ∀ J, FB w h M I J t → am_Rn 3 Y_X8_walkAll (0, 0) 34 [some (.ref 44), some (.int (nI (4 * w * h))), some (.int (nI (bg w h M t))), some (.int (nI t))] [] S J (fun r S' I' => r = none ∧ S' = S ∧ FB w h M I I' (4 * w * h) ∧ I' 52 (nl w h M (4 * w * h)) = nI (bg w h M (4 * w * h))) := by
    refine am_loop (4 * w * h) (fun t ht ih J hF => ?_)
    have vG : isGr J 0 w h M := ⟨by rw [hF.2.2.1 45 (by decide) (by decide) (by decide) (by decide) (by decide)]; exact hI.1, by rw [hF.2.2.1 46 (by decide) (by decide) (by decide) (by decide) (by decide)]; exact hI.2.1, fun i j hi hj => by rw [hF.2.2.1 47 (by decide) (by decide) (by decide) (by decide) (by decide)]; exact hI.2.2 i j hi hj⟩
    have hb9 := bg_le (w := w) (h := h) (M := M) w1 ht
    have hn9 := nl_le_bg (w := w) (h := h) (M := M) w1 ht
    refine rn_iload_n dX8_walkAll_34 rfl rfl ?_
    refine rn_iload_n dX8_walkAll_35 rfl rfl ?_
    refine rn_icmp_geN (tgt := 84) dX8_walkAll_36 (by decide) (by omega) (by omega) (fun c_36 => ?_) (fun c_36 => ?_)
    · refine rn_aload_n dX8_walkAll_84 rfl rfl ?_
      refine rn_getR (r := 52) dX8_walkAll_85 fd_8_33 (sk_l hs 44 (by decide)) (sk_k44 hs) rfl (sk_r44_8 hs) ?_
      refine rn_aload_n dX8_walkAll_88 rfl rfl ?_
      refine rn_getI dX8_walkAll_89 fd_8_85 (sk_l hs 44 (by decide)) (sk_k44 hs) rfl ?_
      refine rn_top (y := nI (nl w h M t)) (hF.2.1) ?_
      refine rn_iload_n dX8_walkAll_92 rfl rfl ?_
      refine rn_iastoreN dX8_walkAll_93 (sk_l hs 52 (by decide)) (sk_k52 hs) (by omega) (by omega) ?_
      refine rn_return dX8_walkAll_94 rfl ?_
      obtain rfl : t = 4 * w * h := by omega
      refine ⟨rfl, rfl, ⟨⟨fun z hz hv => by rw [am_up_a _ _ (by decide)]; exact hF.1.1 z hz hv, fun y k hy hly hk => by rw [am_up_a _ _ (by decide), am_up_a _ _ (by decide), am_up_a _ _ (by decide)]; exact hF.1.2.1 y k hy hly hk, fun y hy hly => by rw [am_up_k _ _ (by have := nl_lead_lt hly hy; omega)]; exact hF.1.2.2 y hy hly⟩, by rw [am_up_a _ _ (by decide)]; exact hF.2.1, fun b b1 b2 b3 b4 b5 => by rw [am_up_a _ _ b5]; exact hF.2.2.1 b b1 b2 b3 b4 b5, fun k hk => by rw [am_up_a _ _ (by decide)]; exact hF.2.2.2 k hk⟩, by rw [am_up_at]⟩
    · refine rn_aload_n dX8_walkAll_39 rfl rfl ?_
      refine rn_getR (r := 49) dX8_walkAll_40 fd_8_24 (sk_l hs 44 (by decide)) (sk_k44 hs) rfl (sk_r44_5 hs) ?_
      refine rn_iload_n dX8_walkAll_43 rfl rfl ?_
      refine rn_ialoadN dX8_walkAll_44 (sk_l hs 49 (by decide)) (sk_k49 hs) (by omega) (by omega) ?_
      refine rn_if_lt (tgt := 51) dX8_walkAll_45 (by decide) (fun c_45 => ?_) (fun c_45 => ?_)
      · have hl : lead w h M t := Classical.byContradiction (fun hn => by obtain ⟨n, h9⟩ := LF_old w1 c_36 hF.1 hn; rcases h9 with ⟨h9, h10⟩ | h9; exact absurd c_45 (by rw [h10]; exact nI_pos (by omega)); omega)
        have hbg := bg_le (w := w) (h := h) (M := M) w1 (show t + 1 ≤ 4 * w * h by omega)
        rw [bg_s hl] at hbg
        have hcb : nl w h M t < 256 := by have h9 := nl_le_bg (w := w) (h := h) (M := M) w1 (show t + 1 ≤ 4 * w * h by omega); rw [nl_s hl, bg_s hl] at h9; omega
        have hbb : bg w h M t + per w h M (lst w t) ≤ 256 := by omega
        refine rn_aload_n dX8_walkAll_51 rfl rfl ?_
        refine rn_getR (r := 52) dX8_walkAll_52 fd_8_33 (sk_l hs 44 (by decide)) (sk_k44 hs) rfl (sk_r44_8 hs) ?_
        refine rn_aload_n dX8_walkAll_55 rfl rfl ?_
        refine rn_getI dX8_walkAll_56 fd_8_85 (sk_l hs 44 (by decide)) (sk_k44 hs) rfl ?_
        refine rn_top (y := nI (nl w h M t)) (hF.2.1) ?_
        refine rn_iload_n dX8_walkAll_59 rfl rfl ?_
        refine rn_iastoreN dX8_walkAll_60 (sk_l hs 52 (by decide)) (sk_k52 hs) (by omega) (by omega) ?_
        refine rn_aload_n dX8_walkAll_61 rfl rfl ?_
        refine rn_iload_n dX8_walkAll_62 rfl rfl ?_
        refine rn_iload_n dX8_walkAll_63 rfl rfl ?_
        refine rn_callVq (st := []) dX8_walkAll_64 cf_8_88 (c_X8_walkOne hs (c := nl w h M t) w1 w8 h1 h8 hok (by exact ⟨by rw [am_up_a _ _ (by decide)]; exact vG.1, by rw [am_up_a _ _ (by decide)]; exact vG.2.1, fun i j hi hj => by rw [am_up_a _ _ (by decide)]; exact vG.2.2 i j hi hj⟩) c_36 (by rw [am_up_a _ _ (by decide)]; exact hF.2.1) hcb hbb) (by decide) (sk_l hs 44 (by decide)) (sk_k44 hs) rfl rfl (Nat.le_of_ble_eq_true rfl) ?_
        refine rn_istore_n (ls' := [some (.ref 44), some (.int (nI (4 * w * h))), some (.int (nI (bg w h M t + per w h M (lst w t)))), some (.int (nI t))]) dX8_walkAll_67 rfl (by decide) rfl rfl ?_
        refine rn_aload_n dX8_walkAll_68 rfl rfl ?_
        refine rn_dup dX8_walkAll_69 rfl ?_
        refine rn_getI dX8_walkAll_70 fd_8_85 (sk_l hs 44 (by decide)) (sk_k44 hs) rfl ?_
        refine rn_top (y := nI (nl w h M t)) (by rw [fwI_o (by decide) (by decide) (by decide), am_up_a _ _ (by decide)]; exact hF.2.1) ?_
        refine rn_iconst (v := nI 1) dX8_walkAll_73 (by decide) ?_
        refine rn_iadd dX8_walkAll_74 ?_
        refine rn_putI dX8_walkAll_75 fd_8_85 (sk_l hs 44 (by decide)) (sk_k44 hs) rfl rfl (vp_nar_int _) rfl ?_
        refine rn_iinc (v := nI (t + 1)) (ls' := [some (.ref 44), some (.int (nI (4 * w * h))), some (.int (nI (bg w h M t + per w h M (lst w t)))), some (.int (nI (t + 1)))]) dX8_walkAll_78 rfl (nI_add _ 1) (by decide) rfl rfl ?_
        refine rn_goto (tgt := 34) dX8_walkAll_81 (by decide) ?_
        have ih1 := ih c_36 _ (FB_step w1 c_36 hl hF)
        rw [bg_s hl] at ih1
        rw [nI_add (nl w h M t) 1]
        exact ih1
      · have hnl : ¬ lead w h M t := fun q => c_45 (by rw [LF_new c_36 hF.1 q]; decide)
        refine rn_goto (tgt := 78) dX8_walkAll_48 (by decide) ?_
        refine rn_iinc (v := nI (t + 1)) (ls' := [some (.ref 44), some (.int (nI (4 * w * h))), some (.int (nI (bg w h M t))), some (.int (nI (t + 1)))]) dX8_walkAll_78 rfl (nI_add _ 1) (by decide) rfl rfl ?_
        refine rn_goto (tgt := 34) dX8_walkAll_81 (by decide) ?_
        have ih1 := ih c_36 J (FB_skip w1 c_36 hnl hF)
        rw [bg_n hnl] at ih1
        exact ih1
  have L7 : ∀ k, k ≤ 4 * w * h → am_Rn 3 Y_X8_walkAll (0, 0) 7 [some (.ref 44), some (.int (nI (4 * w * h))), some (.int (nI k)), none] [] S (va_up I 49 (stP 0 k (fun _ => -1) (I 49))) (fun r S' I' => r = none ∧ S' = S ∧ FB w h M I I' (4 * w * h) ∧ I' 52 (nl w h M (4 * w * h)) = nI (bg w h M (4 * w * h))) := by
    refine am_loop (4 * w * h) (fun k hk ih => ?_)
    refine rn_iload_n dX8_walkAll_7 rfl rfl ?_
    refine rn_iload_n dX8_walkAll_8 rfl rfl ?_
    refine rn_icmp_geN (tgt := 25) dX8_walkAll_9 (by decide) (by omega) (by omega) (fun c_9 => ?_) (fun c_9 => ?_)
    · refine rn_aload_n dX8_walkAll_25 rfl rfl ?_
      refine rn_iconst (v := nI 0) dX8_walkAll_26 (by decide) ?_
      refine rn_putI dX8_walkAll_27 fd_8_85 (sk_l hs 44 (by decide)) (sk_k44 hs) rfl rfl (vp_nar_int _) rfl ?_
      refine rn_iconst (v := nI 0) dX8_walkAll_30 (by decide) ?_
      refine rn_istore_n (ls' := [some (.ref 44), some (.int (nI (4 * w * h))), some (.int (nI 0)), none]) dX8_walkAll_31 rfl (by decide) rfl rfl ?_
      refine rn_iconst (v := nI 0) dX8_walkAll_32 (by decide) ?_
      refine rn_istore_n (ls' := [some (.ref 44), some (.int (nI (4 * w * h))), some (.int (nI 0)), some (.int (nI 0))]) dX8_walkAll_33 rfl (by decide) rfl rfl ?_
      obtain rfl : k = 4 * w * h := by omega
      refine LS 0 (Nat.zero_le _) _ ?_
      refine ⟨⟨fun z hz _ => ?_, fun y k hy => absurd hy (by omega), fun y hy => absurd hy (by omega)⟩, ?_, ?_, ?_⟩
      · rw [am_up_a _ _ (by decide)]; simp only [va_up, if_true, stP]; rw [if_pos (by omega)]
      · rw [am_up_at]; rfl
      · intro b b1 b2 b3 b4 b5
        rw [am_up_a _ _ b1]; simp [va_up, b2]
      · intro k hk
        rw [am_up_k _ _ hk]; simp [va_up]
    · refine rn_aload_n dX8_walkAll_12 rfl rfl ?_
      refine rn_getR (r := 49) dX8_walkAll_13 fd_8_24 (sk_l hs 44 (by decide)) (sk_k44 hs) rfl (sk_r44_5 hs) ?_
      refine rn_iload_n dX8_walkAll_16 rfl rfl ?_
      refine rn_iconst (v := (-1)) dX8_walkAll_17 (by decide) ?_
      refine rn_iastoreN dX8_walkAll_18 (sk_l hs 49 (by decide)) (sk_k49 hs) (by omega) (by omega) ?_
      refine rn_iinc (v := nI (k + 1)) (ls' := [some (.ref 44), some (.int (nI (4 * w * h))), some (.int (nI (k + 1))), none]) dX8_walkAll_19 rfl (nI_add _ 1) (by decide) rfl rfl ?_
      refine rn_goto (tgt := 7) dX8_walkAll_22 (by decide) ?_
      have e9 := stP_step I 49 0 k (fun _ => (-1 : Int32)) (I 49)
      rw [Nat.zero_add] at e9
      refine rn_I e9 ?_
      exact ih c_9
  refine am_mt ⟨by decide +kernel, rfl⟩ (Nat.le_of_ble_eq_true rfl) rfl ?_
  refine rn_aload_n dX8_walkAll_0 rfl rfl ?_
  refine rn_callVq (st := []) dX8_walkAll_1 cf_8_81 (c_X8_squares hs hI.1 hI.2.1 w1 w8 h1 h8) (by decide) (sk_l hs 44 (by decide)) (sk_k44 hs) rfl rfl (Nat.le_of_ble_eq_true rfl) ?_
  refine rn_istore_n (ls' := [some (.ref 44), some (.int (nI (4 * w * h))), none, none]) dX8_walkAll_4 rfl (by decide) rfl rfl ?_
  refine rn_iconst (v := nI 0) dX8_walkAll_5 (by decide) ?_
  refine rn_istore_n (ls' := [some (.ref 44), some (.int (nI (4 * w * h))), some (.int (nI 0)), none]) dX8_walkAll_6 rfl (by decide) rfl rfl ?_
  refine rn_I (stP_0 I 49 0 (fun _ => (-1 : Int32))) ?_
  exact L7 0 (Nat.zero_le _)
