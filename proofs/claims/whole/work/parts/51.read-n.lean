/-- what closing words comes to -/
def CX (S : am_S) (I : am_I) (X : (Nat × Nat) ⊕ (Dw ⊕ List (En × Option Dw))) (r : Option Value) (S' : am_S) (I' : am_I) : Prop := S' = S ∧ FM I I' ∧ I' 44 17 = I 44 17 ∧ ((∃ e, X = .inl e ∧ r = some (.int (nI e.1)) ∧ I' 44 18 = nI e.2) ∨ (∃ D, X = .inr (.inl D) ∧ r = some (.int (nI 0)) ∧ okD D ∧ grD I' 18 D ∧ I' 44 26 = nI 1 ∧ I' 44 21 = nI 0) ∨ ∃ K', X = .inr (.inr K') ∧ r = some (.int (nI 0)) ∧ stX I' K' ∧ K'.length ≤ 8 ∧ I' 44 26 = nI 0 ∧ I' 44 21 = nI K'.length)
theorem OX.n {S : am_S} {I : am_I} {X : Option Dw} {r : Option Value} {S' : am_S} {I' : am_I} (h : OX S I X r S' I') (hX : X = none) : r = some (.int (nI 0)) ∧ S' = S ∧ GF I I' := by
  obtain ⟨h1, h2, ⟨_, h3⟩ | ⟨D, h3, _⟩⟩ := h
  · exact ⟨h3, h1, h2⟩
  · rw [hX] at h3; exact absurd h3 (by simp)
theorem OX.s {S : am_S} {I : am_I} {X : Option Dw} {r : Option Value} {S' : am_S} {I' : am_I} {D : Dw} (h : OX S I X r S' I') (hX : X = some D) : r = some (.int (nI 1)) ∧ S' = S ∧ GF I I' ∧ grD I' 18 D := by
  obtain ⟨h1, h2, ⟨h3, _⟩ | ⟨D', h3, h4, h5⟩⟩ := h
  · rw [hX] at h3; exact absurd h3 (by simp)
  · rw [hX] at h3; rw [Option.some.inj h3]; exact ⟨h4, h1, h2, h5⟩
set_option maxHeartbeats 1000000 in
set_option maxRecDepth 100000 in
theorem c_X8_close {S : am_S} (hs : sk S) {I : am_I} {K : List (En × Option Dw)} {D : Dw} (hK8 : K.length ≤ 8) (hst : stX I K) (hO : okD D) (hD : grD I 18 D) (h26 : I 44 26 = nI 1) (h21 : I 44 21 = nI K.length) : am_Mt 4 Y_X8_close (0, 0) [.ref 44] S I (CX S I (pC K D)) := by
  have LP : ∀ X, ∀ (K : List (En × Option Dw)) (D : Dw) (I1 : am_I), FM I I1 → I1 44 17 = I 44 17 → K.length ≤ 8 → stX I1 K → okD D → grD I1 18 D → I1 44 26 = nI 1 → I1 44 21 = nI K.length → pC K D = X → am_Rn 4 Y_X8_close (0, 0) 0 [some (.ref 44), none, none] [] S I1 (CX S I X) := by
    intro X K
    induction K with
    | nil =>
      intro D I1 hF h17 hK8 hst hO hD h26 h21 hX
      refine rn_aload_n dX8_close_0 rfl rfl ?_
      refine rn_getI dX8_close_1 fd_8_182 (sk_l hs 44 (by decide)) (sk_k44 hs) rfl ?_
      refine rn_top (y := nI 1) (h26) ?_
      refine rn_if_eqN (tgt := 102) dX8_close_4 (by decide) (by omega) (fun c_4 => ?_) (fun c_4 => ?_)
      · exact absurd c_4 (by decide)
      · refine rn_aload_n dX8_close_7 rfl rfl ?_
        refine rn_getI dX8_close_8 fd_8_173 (sk_l hs 44 (by decide)) (sk_k44 hs) rfl ?_
        refine rn_top (y := nI 0) (h21) ?_
        refine rn_if_leN (tgt := 102) dX8_close_11 (by decide) (by omega) (fun c_11 => ?_) (fun c_11 => ?_)
        · refine rn_iconst (v := nI 0) dX8_close_102 (by decide) ?_
          refine rn_ireturn dX8_close_103 rfl (vp_nar_int _) ?_
          exact ⟨rfl, hF, h17, Or.inr (Or.inl ⟨D, hX.symm, rfl, hO, hD, h26, h21⟩)⟩
        · exact absurd c_11 (by decide)
    | cons x K ih =>
      obtain ⟨e, o⟩ := x
      intro D I1 hF h17 hK8 hst hO hD h26 h21 hX
      have hK7 : K.length < 8 := hK8
      obtain ⟨⟨hE, h56, h57, h58, h58r, h59⟩, hst0⟩ := hst
      have h56 : I1 56 K.length = nI e.1 := h56
      have h57 : I1 57 K.length = nI e.2.1 := h57
      have hE : okE e := hE
      have hee := hE.1
      have hD2 : grD (am_up I1 44 21 (nI K.length)) 18 D := hD.up (Or.inl (by decide)) _
      have hF2 : FM I (am_up I1 44 21 (nI K.length)) := hF.up (Or.inl (by decide)) _
      have hS2 : stF K.length I1 (am_up I1 44 21 (nI K.length)) := stF.rf.up (Or.inl rfl) _
      by_cases hw : e.1 = 5
      · have hou : opU e D = oSet e.2.2.1 e.2.2.2.1 e.2.2.2.2 D := by unfold opU; rw [if_pos hw]
        rcases ho : oSet e.2.2.1 e.2.2.2.1 e.2.2.2.2 D with _ | D8
        · have hop := hou.trans ho
          refine rn_aload_n dX8_close_0 rfl rfl ?_
          refine rn_getI dX8_close_1 fd_8_182 (sk_l hs 44 (by decide)) (sk_k44 hs) rfl ?_
          refine rn_top (y := nI 1) (h26) ?_
          refine rn_if_eqN (tgt := 102) dX8_close_4 (by decide) (by omega) (fun c_4 => ?_) (fun c_4 => ?_)
          · exact absurd c_4 (by decide)
          · refine rn_aload_n dX8_close_7 rfl rfl ?_
            refine rn_getI dX8_close_8 fd_8_173 (sk_l hs 44 (by decide)) (sk_k44 hs) rfl ?_
            refine rn_top (y := nI (K.length + 1)) (h21) ?_
            refine rn_if_leN (tgt := 102) dX8_close_11 (by decide) (by omega) (fun c_11 => ?_) (fun c_11 => ?_)
            · omega
            · refine rn_aload_n dX8_close_14 rfl rfl ?_
              refine rn_getI dX8_close_15 fd_8_173 (sk_l hs 44 (by decide)) (sk_k44 hs) rfl ?_
              refine rn_top (y := nI (K.length + 1)) (h21) ?_
              refine rn_iconst (v := nI 1) dX8_close_18 (by decide) ?_
              refine rn_isub dX8_close_19 ?_
              refine rn_top (pk_sub (by omega)) ?_
              refine rn_top (y := nI K.length) (by rw [Nat.add_sub_cancel]) ?_
              refine rn_istore_n (ls' := [some (.ref 44), some (.int (nI K.length)), none]) dX8_close_20 rfl (by decide) rfl rfl ?_
              refine rn_aload_n dX8_close_21 rfl rfl ?_
              refine rn_getR (r := 56) dX8_close_22 fd_8_52 (sk_l hs 44 (by decide)) (sk_k44 hs) rfl (sk_r44_22 hs) ?_
              refine rn_iload_n dX8_close_25 rfl rfl ?_
              refine rn_ialoadN dX8_close_26 (sk_l hs 56 (by decide)) (sk_k56 hs) (by omega) (by omega) ?_
              refine rn_top (y := nI 5) (by rw [h56, hw]) ?_
              refine rn_istore_n (ls' := [some (.ref 44), some (.int (nI K.length)), some (.int (nI 5))]) dX8_close_27 rfl (by decide) rfl rfl ?_
              refine rn_iload_n dX8_close_28 rfl rfl ?_
              refine rn_bipush (v := nI 8) dX8_close_29 (by decide) ?_
              refine rn_icmp_leN (tgt := 68) dX8_close_31 (by decide) (by omega) (by omega) (fun c_31 => ?_) (fun c_31 => ?_)
              · refine rn_aload_n dX8_close_68 rfl rfl ?_
                refine rn_dup dX8_close_69 rfl ?_
                refine rn_getI dX8_close_70 fd_8_173 (sk_l hs 44 (by decide)) (sk_k44 hs) rfl ?_
                refine rn_top (y := nI (K.length + 1)) (h21) ?_
                refine rn_iconst (v := nI 1) dX8_close_73 (by decide) ?_
                refine rn_isub dX8_close_74 ?_
                refine rn_top (pk_sub (by omega)) ?_
                refine rn_top (y := nI K.length) (by rw [Nat.add_sub_cancel]) ?_
                refine rn_putI dX8_close_75 fd_8_173 (sk_l hs 44 (by decide)) (sk_k44 hs) rfl rfl (vp_nar_int _) rfl ?_
                refine rn_aload_n dX8_close_78 rfl rfl ?_
                refine rn_iload_n dX8_close_79 rfl rfl ?_
                refine rn_iload_n dX8_close_80 rfl rfl ?_
                refine rn_callV0 (st := []) dX8_close_81 cf_8_186 (c_X8_isDone_5 hs hO hD2 hK7 (hE.2.1 hw).1 (hE.2.1 hw).2.1 (hE.2.1 hw).2.2 (by rw [am_up_a _ _ (by decide)]; exact (h58 hw).1) (by rw [am_up_a _ _ (by decide)]; exact (h58 hw).2.1) (by rw [am_up_a _ _ (by decide)]; exact (h58 hw).2.2)) (by omega) (sk_l hs 44 (by decide)) (sk_k44 hs) rfl rfl (Nat.le_of_ble_eq_true rfl) (fun r1 S1 I3 hq => ?_)
                obtain ⟨rfl, rfl, hG3⟩ := hq.n ho
                refine rn_if_neN (tgt := 99) dX8_close_84 (by decide) (by omega) (fun c_84 => ?_) (fun c_84 => ?_)
                · exact absurd c_84 (by decide)
                · refine rn_aload_n dX8_close_87 rfl rfl ?_
                  refine rn_aload_n dX8_close_88 rfl rfl ?_
                  refine rn_getR (r := 57) dX8_close_89 fd_8_55 (sk_l hs 44 (by decide)) (sk_k44 hs) rfl (sk_r44_23 hs) ?_
                  refine rn_iload_n dX8_close_92 rfl rfl ?_
                  refine rn_ialoadN dX8_close_93 (sk_l hs 57 (by decide)) (sk_k57 hs) (by omega) (by omega) ?_
                  refine rn_top (y := nI e.2.1) (by rw [hG3.1 57 (by decide) (by decide) (by decide), am_up_a _ _ (by decide)]; exact h57) ?_
                  refine rn_putI dX8_close_94 fd_8_154 (sk_l hs 44 (by decide)) (sk_k44 hs) rfl rfl (vp_nar_int _) rfl ?_
                  refine rn_iconst (v := nI 4) dX8_close_97 (by decide) ?_
                  refine rn_ireturn dX8_close_98 rfl (vp_nar_int _) ?_
                  refine ⟨rfl, (hF2.trans hG3.fm).up (Or.inl (by decide)) _, ?_, Or.inl ⟨(4, e.2.1), ?_, rfl, by rw [am_up_at]⟩⟩
                  · rw [am_up_k _ _ (by decide), hG3.1 44 (by decide) (by decide) (by decide), am_up_k _ _ (by decide)]; exact h17
                  · rw [← hX]; simp only [pC]; rw [if_pos (by omega), hop]
              · exact absurd c_31 (by decide)
        · have hop := hou.trans ho
          refine rn_aload_n dX8_close_0 rfl rfl ?_
          refine rn_getI dX8_close_1 fd_8_182 (sk_l hs 44 (by decide)) (sk_k44 hs) rfl ?_
          refine rn_top (y := nI 1) (h26) ?_
          refine rn_if_eqN (tgt := 102) dX8_close_4 (by decide) (by omega) (fun c_4 => ?_) (fun c_4 => ?_)
          · exact absurd c_4 (by decide)
          · refine rn_aload_n dX8_close_7 rfl rfl ?_
            refine rn_getI dX8_close_8 fd_8_173 (sk_l hs 44 (by decide)) (sk_k44 hs) rfl ?_
            refine rn_top (y := nI (K.length + 1)) (h21) ?_
            refine rn_if_leN (tgt := 102) dX8_close_11 (by decide) (by omega) (fun c_11 => ?_) (fun c_11 => ?_)
            · omega
            · refine rn_aload_n dX8_close_14 rfl rfl ?_
              refine rn_getI dX8_close_15 fd_8_173 (sk_l hs 44 (by decide)) (sk_k44 hs) rfl ?_
              refine rn_top (y := nI (K.length + 1)) (h21) ?_
              refine rn_iconst (v := nI 1) dX8_close_18 (by decide) ?_
              refine rn_isub dX8_close_19 ?_
              refine rn_top (pk_sub (by omega)) ?_
              refine rn_top (y := nI K.length) (by rw [Nat.add_sub_cancel]) ?_
              refine rn_istore_n (ls' := [some (.ref 44), some (.int (nI K.length)), none]) dX8_close_20 rfl (by decide) rfl rfl ?_
              refine rn_aload_n dX8_close_21 rfl rfl ?_
              refine rn_getR (r := 56) dX8_close_22 fd_8_52 (sk_l hs 44 (by decide)) (sk_k44 hs) rfl (sk_r44_22 hs) ?_
              refine rn_iload_n dX8_close_25 rfl rfl ?_
              refine rn_ialoadN dX8_close_26 (sk_l hs 56 (by decide)) (sk_k56 hs) (by omega) (by omega) ?_
              refine rn_top (y := nI 5) (by rw [h56, hw]) ?_
              refine rn_istore_n (ls' := [some (.ref 44), some (.int (nI K.length)), some (.int (nI 5))]) dX8_close_27 rfl (by decide) rfl rfl ?_
              refine rn_iload_n dX8_close_28 rfl rfl ?_
              refine rn_bipush (v := nI 8) dX8_close_29 (by decide) ?_
              refine rn_icmp_leN (tgt := 68) dX8_close_31 (by decide) (by omega) (by omega) (fun c_31 => ?_) (fun c_31 => ?_)
              · refine rn_aload_n dX8_close_68 rfl rfl ?_
                refine rn_dup dX8_close_69 rfl ?_
                refine rn_getI dX8_close_70 fd_8_173 (sk_l hs 44 (by decide)) (sk_k44 hs) rfl ?_
                refine rn_top (y := nI (K.length + 1)) (h21) ?_
                refine rn_iconst (v := nI 1) dX8_close_73 (by decide) ?_
                refine rn_isub dX8_close_74 ?_
                refine rn_top (pk_sub (by omega)) ?_
                refine rn_top (y := nI K.length) (by rw [Nat.add_sub_cancel]) ?_
                refine rn_putI dX8_close_75 fd_8_173 (sk_l hs 44 (by decide)) (sk_k44 hs) rfl rfl (vp_nar_int _) rfl ?_
                refine rn_aload_n dX8_close_78 rfl rfl ?_
                refine rn_iload_n dX8_close_79 rfl rfl ?_
                refine rn_iload_n dX8_close_80 rfl rfl ?_
                refine rn_callV0 (st := []) dX8_close_81 cf_8_186 (c_X8_isDone_5 hs hO hD2 hK7 (hE.2.1 hw).1 (hE.2.1 hw).2.1 (hE.2.1 hw).2.2 (by rw [am_up_a _ _ (by decide)]; exact (h58 hw).1) (by rw [am_up_a _ _ (by decide)]; exact (h58 hw).2.1) (by rw [am_up_a _ _ (by decide)]; exact (h58 hw).2.2)) (by omega) (sk_l hs 44 (by decide)) (sk_k44 hs) rfl rfl (Nat.le_of_ble_eq_true rfl) (fun r1 S1 I3 hq => ?_)
                obtain ⟨rfl, rfl, hG3, hD3⟩ := hq.s ho
                refine rn_if_neN (tgt := 99) dX8_close_84 (by decide) (by omega) (fun c_84 => ?_) (fun c_84 => ?_)
                · refine rn_goto (tgt := 0) dX8_close_99 (by decide) ?_
                  refine rn_ls (ls' := [some (.ref 44), none, none]) rfl (fun i x h => by rcases i with _ | _ | _ | i <;> first | exact h | (simp at h)) ?_
                  have h44 : I3 44 = (am_up I1 44 21 (nI K.length)) 44 := hG3.1 44 (by decide) (by decide) (by decide)
                  refine ih D8 I3 (hF2.trans hG3.fm) ?_ (by omega) (hst0.moved (hS2.trans (hG3.st (by omega)))) (okD_U hE (by omega) hO hop) hD3 ?_ ?_ ?_
                  · rw [h44, am_up_k _ _ (by decide)]; exact h17
                  · rw [h44, am_up_k _ _ (by decide)]; exact h26
                  · rw [h44, am_up_at]
                  · rw [← hX]; simp only [pC]; rw [if_pos (by omega), hop]
                · exact absurd c_84 (by decide)
              · exact absurd c_31 (by decide)
      by_cases hw : e.1 = 6
      · have hou : opU e D = some (oTurn D) := by unfold opU; rw [if_neg (by omega), if_pos hw]
        obtain ⟨D8, ho⟩ : ∃ D8, some (oTurn D) = some D8 := ⟨_, rfl⟩
        have hop := hou.trans ho
        refine rn_aload_n dX8_close_0 rfl rfl ?_
        refine rn_getI dX8_close_1 fd_8_182 (sk_l hs 44 (by decide)) (sk_k44 hs) rfl ?_
        refine rn_top (y := nI 1) (h26) ?_
        refine rn_if_eqN (tgt := 102) dX8_close_4 (by decide) (by omega) (fun c_4 => ?_) (fun c_4 => ?_)
        · exact absurd c_4 (by decide)
        · refine rn_aload_n dX8_close_7 rfl rfl ?_
          refine rn_getI dX8_close_8 fd_8_173 (sk_l hs 44 (by decide)) (sk_k44 hs) rfl ?_
          refine rn_top (y := nI (K.length + 1)) (h21) ?_
          refine rn_if_leN (tgt := 102) dX8_close_11 (by decide) (by omega) (fun c_11 => ?_) (fun c_11 => ?_)
          · omega
          · refine rn_aload_n dX8_close_14 rfl rfl ?_
            refine rn_getI dX8_close_15 fd_8_173 (sk_l hs 44 (by decide)) (sk_k44 hs) rfl ?_
            refine rn_top (y := nI (K.length + 1)) (h21) ?_
            refine rn_iconst (v := nI 1) dX8_close_18 (by decide) ?_
            refine rn_isub dX8_close_19 ?_
            refine rn_top (pk_sub (by omega)) ?_
            refine rn_top (y := nI K.length) (by rw [Nat.add_sub_cancel]) ?_
            refine rn_istore_n (ls' := [some (.ref 44), some (.int (nI K.length)), none]) dX8_close_20 rfl (by decide) rfl rfl ?_
            refine rn_aload_n dX8_close_21 rfl rfl ?_
            refine rn_getR (r := 56) dX8_close_22 fd_8_52 (sk_l hs 44 (by decide)) (sk_k44 hs) rfl (sk_r44_22 hs) ?_
            refine rn_iload_n dX8_close_25 rfl rfl ?_
            refine rn_ialoadN dX8_close_26 (sk_l hs 56 (by decide)) (sk_k56 hs) (by omega) (by omega) ?_
            refine rn_top (y := nI 6) (by rw [h56, hw]) ?_
            refine rn_istore_n (ls' := [some (.ref 44), some (.int (nI K.length)), some (.int (nI 6))]) dX8_close_27 rfl (by decide) rfl rfl ?_
            refine rn_iload_n dX8_close_28 rfl rfl ?_
            refine rn_bipush (v := nI 8) dX8_close_29 (by decide) ?_
            refine rn_icmp_leN (tgt := 68) dX8_close_31 (by decide) (by omega) (by omega) (fun c_31 => ?_) (fun c_31 => ?_)
            · refine rn_aload_n dX8_close_68 rfl rfl ?_
              refine rn_dup dX8_close_69 rfl ?_
              refine rn_getI dX8_close_70 fd_8_173 (sk_l hs 44 (by decide)) (sk_k44 hs) rfl ?_
              refine rn_top (y := nI (K.length + 1)) (h21) ?_
              refine rn_iconst (v := nI 1) dX8_close_73 (by decide) ?_
              refine rn_isub dX8_close_74 ?_
              refine rn_top (pk_sub (by omega)) ?_
              refine rn_top (y := nI K.length) (by rw [Nat.add_sub_cancel]) ?_
              refine rn_putI dX8_close_75 fd_8_173 (sk_l hs 44 (by decide)) (sk_k44 hs) rfl rfl (vp_nar_int _) rfl ?_
              refine rn_aload_n dX8_close_78 rfl rfl ?_
              refine rn_iload_n dX8_close_79 rfl rfl ?_
              refine rn_iload_n dX8_close_80 rfl rfl ?_
              refine rn_callV0 (st := []) dX8_close_81 cf_8_186 (c_X8_isDone_6 hs hO hD2 hK7) (by omega) (sk_l hs 44 (by decide)) (sk_k44 hs) rfl rfl (Nat.le_of_ble_eq_true rfl) (fun r1 S1 I3 hq => ?_)
              obtain ⟨rfl, rfl, hG3, hD3⟩ := hq.s ho
              refine rn_if_neN (tgt := 99) dX8_close_84 (by decide) (by omega) (fun c_84 => ?_) (fun c_84 => ?_)
              · refine rn_goto (tgt := 0) dX8_close_99 (by decide) ?_
                refine rn_ls (ls' := [some (.ref 44), none, none]) rfl (fun i x h => by rcases i with _ | _ | _ | i <;> first | exact h | (simp at h)) ?_
                have h44 : I3 44 = (am_up I1 44 21 (nI K.length)) 44 := hG3.1 44 (by decide) (by decide) (by decide)
                refine ih D8 I3 (hF2.trans hG3.fm) ?_ (by omega) (hst0.moved (hS2.trans (hG3.st (by omega)))) (okD_U hE (by omega) hO hop) hD3 ?_ ?_ ?_
                · rw [h44, am_up_k _ _ (by decide)]; exact h17
                · rw [h44, am_up_k _ _ (by decide)]; exact h26
                · rw [h44, am_up_at]
                · rw [← hX]; simp only [pC]; rw [if_pos (by omega), hop]
              · exact absurd c_84 (by decide)
            · exact absurd c_31 (by decide)
      by_cases hw : e.1 = 7
      · have hou : opU e D = some (oFlip D) := by unfold opU; rw [if_neg (by omega), if_neg (by omega), if_pos hw]
        obtain ⟨D8, ho⟩ : ∃ D8, some (oFlip D) = some D8 := ⟨_, rfl⟩
        have hop := hou.trans ho
        refine rn_aload_n dX8_close_0 rfl rfl ?_
        refine rn_getI dX8_close_1 fd_8_182 (sk_l hs 44 (by decide)) (sk_k44 hs) rfl ?_
        refine rn_top (y := nI 1) (h26) ?_
        refine rn_if_eqN (tgt := 102) dX8_close_4 (by decide) (by omega) (fun c_4 => ?_) (fun c_4 => ?_)
        · exact absurd c_4 (by decide)
        · refine rn_aload_n dX8_close_7 rfl rfl ?_
          refine rn_getI dX8_close_8 fd_8_173 (sk_l hs 44 (by decide)) (sk_k44 hs) rfl ?_
          refine rn_top (y := nI (K.length + 1)) (h21) ?_
          refine rn_if_leN (tgt := 102) dX8_close_11 (by decide) (by omega) (fun c_11 => ?_) (fun c_11 => ?_)
          · omega
          · refine rn_aload_n dX8_close_14 rfl rfl ?_
            refine rn_getI dX8_close_15 fd_8_173 (sk_l hs 44 (by decide)) (sk_k44 hs) rfl ?_
            refine rn_top (y := nI (K.length + 1)) (h21) ?_
            refine rn_iconst (v := nI 1) dX8_close_18 (by decide) ?_
            refine rn_isub dX8_close_19 ?_
            refine rn_top (pk_sub (by omega)) ?_
            refine rn_top (y := nI K.length) (by rw [Nat.add_sub_cancel]) ?_
            refine rn_istore_n (ls' := [some (.ref 44), some (.int (nI K.length)), none]) dX8_close_20 rfl (by decide) rfl rfl ?_
            refine rn_aload_n dX8_close_21 rfl rfl ?_
            refine rn_getR (r := 56) dX8_close_22 fd_8_52 (sk_l hs 44 (by decide)) (sk_k44 hs) rfl (sk_r44_22 hs) ?_
            refine rn_iload_n dX8_close_25 rfl rfl ?_
            refine rn_ialoadN dX8_close_26 (sk_l hs 56 (by decide)) (sk_k56 hs) (by omega) (by omega) ?_
            refine rn_top (y := nI 7) (by rw [h56, hw]) ?_
            refine rn_istore_n (ls' := [some (.ref 44), some (.int (nI K.length)), some (.int (nI 7))]) dX8_close_27 rfl (by decide) rfl rfl ?_
            refine rn_iload_n dX8_close_28 rfl rfl ?_
            refine rn_bipush (v := nI 8) dX8_close_29 (by decide) ?_
            refine rn_icmp_leN (tgt := 68) dX8_close_31 (by decide) (by omega) (by omega) (fun c_31 => ?_) (fun c_31 => ?_)
            · refine rn_aload_n dX8_close_68 rfl rfl ?_
              refine rn_dup dX8_close_69 rfl ?_
              refine rn_getI dX8_close_70 fd_8_173 (sk_l hs 44 (by decide)) (sk_k44 hs) rfl ?_
              refine rn_top (y := nI (K.length + 1)) (h21) ?_
              refine rn_iconst (v := nI 1) dX8_close_73 (by decide) ?_
              refine rn_isub dX8_close_74 ?_
              refine rn_top (pk_sub (by omega)) ?_
              refine rn_top (y := nI K.length) (by rw [Nat.add_sub_cancel]) ?_
              refine rn_putI dX8_close_75 fd_8_173 (sk_l hs 44 (by decide)) (sk_k44 hs) rfl rfl (vp_nar_int _) rfl ?_
              refine rn_aload_n dX8_close_78 rfl rfl ?_
              refine rn_iload_n dX8_close_79 rfl rfl ?_
              refine rn_iload_n dX8_close_80 rfl rfl ?_
              refine rn_callV0 (st := []) dX8_close_81 cf_8_186 (c_X8_isDone_7 hs hO hD2 hK7) (by omega) (sk_l hs 44 (by decide)) (sk_k44 hs) rfl rfl (Nat.le_of_ble_eq_true rfl) (fun r1 S1 I3 hq => ?_)
              obtain ⟨rfl, rfl, hG3, hD3⟩ := hq.s ho
              refine rn_if_neN (tgt := 99) dX8_close_84 (by decide) (by omega) (fun c_84 => ?_) (fun c_84 => ?_)
              · refine rn_goto (tgt := 0) dX8_close_99 (by decide) ?_
                refine rn_ls (ls' := [some (.ref 44), none, none]) rfl (fun i x h => by rcases i with _ | _ | _ | i <;> first | exact h | (simp at h)) ?_
                have h44 : I3 44 = (am_up I1 44 21 (nI K.length)) 44 := hG3.1 44 (by decide) (by decide) (by decide)
                refine ih D8 I3 (hF2.trans hG3.fm) ?_ (by omega) (hst0.moved (hS2.trans (hG3.st (by omega)))) (okD_U hE (by omega) hO hop) hD3 ?_ ?_ ?_
                · rw [h44, am_up_k _ _ (by decide)]; exact h17
                · rw [h44, am_up_k _ _ (by decide)]; exact h26
                · rw [h44, am_up_at]
                · rw [← hX]; simp only [pC]; rw [if_pos (by omega), hop]
              · exact absurd c_84 (by decide)
            · exact absurd c_31 (by decide)
      by_cases hw : e.1 = 8
      · have hou : opU e D = oRow e.2.2.1 D := by unfold opU; rw [if_neg (by omega), if_neg (by omega), if_neg (by omega)]
        rcases ho : oRow e.2.2.1 D with _ | D8
        · have hop := hou.trans ho
          refine rn_aload_n dX8_close_0 rfl rfl ?_
          refine rn_getI dX8_close_1 fd_8_182 (sk_l hs 44 (by decide)) (sk_k44 hs) rfl ?_
          refine rn_top (y := nI 1) (h26) ?_
          refine rn_if_eqN (tgt := 102) dX8_close_4 (by decide) (by omega) (fun c_4 => ?_) (fun c_4 => ?_)
          · exact absurd c_4 (by decide)
          · refine rn_aload_n dX8_close_7 rfl rfl ?_
            refine rn_getI dX8_close_8 fd_8_173 (sk_l hs 44 (by decide)) (sk_k44 hs) rfl ?_
            refine rn_top (y := nI (K.length + 1)) (h21) ?_
            refine rn_if_leN (tgt := 102) dX8_close_11 (by decide) (by omega) (fun c_11 => ?_) (fun c_11 => ?_)
            · omega
            · refine rn_aload_n dX8_close_14 rfl rfl ?_
              refine rn_getI dX8_close_15 fd_8_173 (sk_l hs 44 (by decide)) (sk_k44 hs) rfl ?_
              refine rn_top (y := nI (K.length + 1)) (h21) ?_
              refine rn_iconst (v := nI 1) dX8_close_18 (by decide) ?_
              refine rn_isub dX8_close_19 ?_
              refine rn_top (pk_sub (by omega)) ?_
              refine rn_top (y := nI K.length) (by rw [Nat.add_sub_cancel]) ?_
              refine rn_istore_n (ls' := [some (.ref 44), some (.int (nI K.length)), none]) dX8_close_20 rfl (by decide) rfl rfl ?_
              refine rn_aload_n dX8_close_21 rfl rfl ?_
              refine rn_getR (r := 56) dX8_close_22 fd_8_52 (sk_l hs 44 (by decide)) (sk_k44 hs) rfl (sk_r44_22 hs) ?_
              refine rn_iload_n dX8_close_25 rfl rfl ?_
              refine rn_ialoadN dX8_close_26 (sk_l hs 56 (by decide)) (sk_k56 hs) (by omega) (by omega) ?_
              refine rn_top (y := nI 8) (by rw [h56, hw]) ?_
              refine rn_istore_n (ls' := [some (.ref 44), some (.int (nI K.length)), some (.int (nI 8))]) dX8_close_27 rfl (by decide) rfl rfl ?_
              refine rn_iload_n dX8_close_28 rfl rfl ?_
              refine rn_bipush (v := nI 8) dX8_close_29 (by decide) ?_
              refine rn_icmp_leN (tgt := 68) dX8_close_31 (by decide) (by omega) (by omega) (fun c_31 => ?_) (fun c_31 => ?_)
              · refine rn_aload_n dX8_close_68 rfl rfl ?_
                refine rn_dup dX8_close_69 rfl ?_
                refine rn_getI dX8_close_70 fd_8_173 (sk_l hs 44 (by decide)) (sk_k44 hs) rfl ?_
                refine rn_top (y := nI (K.length + 1)) (h21) ?_
                refine rn_iconst (v := nI 1) dX8_close_73 (by decide) ?_
                refine rn_isub dX8_close_74 ?_
                refine rn_top (pk_sub (by omega)) ?_
                refine rn_top (y := nI K.length) (by rw [Nat.add_sub_cancel]) ?_
                refine rn_putI dX8_close_75 fd_8_173 (sk_l hs 44 (by decide)) (sk_k44 hs) rfl rfl (vp_nar_int _) rfl ?_
                refine rn_aload_n dX8_close_78 rfl rfl ?_
                refine rn_iload_n dX8_close_79 rfl rfl ?_
                refine rn_iload_n dX8_close_80 rfl rfl ?_
                refine rn_callV0 (st := []) dX8_close_81 cf_8_186 (c_X8_isDone_8 hs hO hD2 hK7 (hE.2.2 hw).1 (hE.2.2 hw).2 (by rw [am_up_a _ _ (by decide)]; exact h58r hw)) (by omega) (sk_l hs 44 (by decide)) (sk_k44 hs) rfl rfl (Nat.le_of_ble_eq_true rfl) (fun r1 S1 I3 hq => ?_)
                obtain ⟨rfl, rfl, hG3⟩ := hq.n ho
                refine rn_if_neN (tgt := 99) dX8_close_84 (by decide) (by omega) (fun c_84 => ?_) (fun c_84 => ?_)
                · exact absurd c_84 (by decide)
                · refine rn_aload_n dX8_close_87 rfl rfl ?_
                  refine rn_aload_n dX8_close_88 rfl rfl ?_
                  refine rn_getR (r := 57) dX8_close_89 fd_8_55 (sk_l hs 44 (by decide)) (sk_k44 hs) rfl (sk_r44_23 hs) ?_
                  refine rn_iload_n dX8_close_92 rfl rfl ?_
                  refine rn_ialoadN dX8_close_93 (sk_l hs 57 (by decide)) (sk_k57 hs) (by omega) (by omega) ?_
                  refine rn_top (y := nI e.2.1) (by rw [hG3.1 57 (by decide) (by decide) (by decide), am_up_a _ _ (by decide)]; exact h57) ?_
                  refine rn_putI dX8_close_94 fd_8_154 (sk_l hs 44 (by decide)) (sk_k44 hs) rfl rfl (vp_nar_int _) rfl ?_
                  refine rn_iconst (v := nI 4) dX8_close_97 (by decide) ?_
                  refine rn_ireturn dX8_close_98 rfl (vp_nar_int _) ?_
                  refine ⟨rfl, (hF2.trans hG3.fm).up (Or.inl (by decide)) _, ?_, Or.inl ⟨(4, e.2.1), ?_, rfl, by rw [am_up_at]⟩⟩
                  · rw [am_up_k _ _ (by decide), hG3.1 44 (by decide) (by decide) (by decide), am_up_k _ _ (by decide)]; exact h17
                  · rw [← hX]; simp only [pC]; rw [if_pos (by omega), hop]
              · exact absurd c_31 (by decide)
        · have hop := hou.trans ho
          refine rn_aload_n dX8_close_0 rfl rfl ?_
          refine rn_getI dX8_close_1 fd_8_182 (sk_l hs 44 (by decide)) (sk_k44 hs) rfl ?_
          refine rn_top (y := nI 1) (h26) ?_
          refine rn_if_eqN (tgt := 102) dX8_close_4 (by decide) (by omega) (fun c_4 => ?_) (fun c_4 => ?_)
          · exact absurd c_4 (by decide)
          · refine rn_aload_n dX8_close_7 rfl rfl ?_
            refine rn_getI dX8_close_8 fd_8_173 (sk_l hs 44 (by decide)) (sk_k44 hs) rfl ?_
            refine rn_top (y := nI (K.length + 1)) (h21) ?_
            refine rn_if_leN (tgt := 102) dX8_close_11 (by decide) (by omega) (fun c_11 => ?_) (fun c_11 => ?_)
            · omega
            · refine rn_aload_n dX8_close_14 rfl rfl ?_
              refine rn_getI dX8_close_15 fd_8_173 (sk_l hs 44 (by decide)) (sk_k44 hs) rfl ?_
              refine rn_top (y := nI (K.length + 1)) (h21) ?_
              refine rn_iconst (v := nI 1) dX8_close_18 (by decide) ?_
              refine rn_isub dX8_close_19 ?_
              refine rn_top (pk_sub (by omega)) ?_
              refine rn_top (y := nI K.length) (by rw [Nat.add_sub_cancel]) ?_
              refine rn_istore_n (ls' := [some (.ref 44), some (.int (nI K.length)), none]) dX8_close_20 rfl (by decide) rfl rfl ?_
              refine rn_aload_n dX8_close_21 rfl rfl ?_
              refine rn_getR (r := 56) dX8_close_22 fd_8_52 (sk_l hs 44 (by decide)) (sk_k44 hs) rfl (sk_r44_22 hs) ?_
              refine rn_iload_n dX8_close_25 rfl rfl ?_
              refine rn_ialoadN dX8_close_26 (sk_l hs 56 (by decide)) (sk_k56 hs) (by omega) (by omega) ?_
              refine rn_top (y := nI 8) (by rw [h56, hw]) ?_
              refine rn_istore_n (ls' := [some (.ref 44), some (.int (nI K.length)), some (.int (nI 8))]) dX8_close_27 rfl (by decide) rfl rfl ?_
              refine rn_iload_n dX8_close_28 rfl rfl ?_
              refine rn_bipush (v := nI 8) dX8_close_29 (by decide) ?_
              refine rn_icmp_leN (tgt := 68) dX8_close_31 (by decide) (by omega) (by omega) (fun c_31 => ?_) (fun c_31 => ?_)
              · refine rn_aload_n dX8_close_68 rfl rfl ?_
                refine rn_dup dX8_close_69 rfl ?_
                refine rn_getI dX8_close_70 fd_8_173 (sk_l hs 44 (by decide)) (sk_k44 hs) rfl ?_
                refine rn_top (y := nI (K.length + 1)) (h21) ?_
                refine rn_iconst (v := nI 1) dX8_close_73 (by decide) ?_
                refine rn_isub dX8_close_74 ?_
                refine rn_top (pk_sub (by omega)) ?_
                refine rn_top (y := nI K.length) (by rw [Nat.add_sub_cancel]) ?_
                refine rn_putI dX8_close_75 fd_8_173 (sk_l hs 44 (by decide)) (sk_k44 hs) rfl rfl (vp_nar_int _) rfl ?_
                refine rn_aload_n dX8_close_78 rfl rfl ?_
                refine rn_iload_n dX8_close_79 rfl rfl ?_
                refine rn_iload_n dX8_close_80 rfl rfl ?_
                refine rn_callV0 (st := []) dX8_close_81 cf_8_186 (c_X8_isDone_8 hs hO hD2 hK7 (hE.2.2 hw).1 (hE.2.2 hw).2 (by rw [am_up_a _ _ (by decide)]; exact h58r hw)) (by omega) (sk_l hs 44 (by decide)) (sk_k44 hs) rfl rfl (Nat.le_of_ble_eq_true rfl) (fun r1 S1 I3 hq => ?_)
                obtain ⟨rfl, rfl, hG3, hD3⟩ := hq.s ho
                refine rn_if_neN (tgt := 99) dX8_close_84 (by decide) (by omega) (fun c_84 => ?_) (fun c_84 => ?_)
                · refine rn_goto (tgt := 0) dX8_close_99 (by decide) ?_
                  refine rn_ls (ls' := [some (.ref 44), none, none]) rfl (fun i x h => by rcases i with _ | _ | _ | i <;> first | exact h | (simp at h)) ?_
                  have h44 : I3 44 = (am_up I1 44 21 (nI K.length)) 44 := hG3.1 44 (by decide) (by decide) (by decide)
                  refine ih D8 I3 (hF2.trans hG3.fm) ?_ (by omega) (hst0.moved (hS2.trans (hG3.st (by omega)))) (okD_U hE (by omega) hO hop) hD3 ?_ ?_ ?_
                  · rw [h44, am_up_k _ _ (by decide)]; exact h17
                  · rw [h44, am_up_k _ _ (by decide)]; exact h26
                  · rw [h44, am_up_at]
                  · rw [← hX]; simp only [pC]; rw [if_pos (by omega), hop]
                · exact absurd c_84 (by decide)
              · exact absurd c_31 (by decide)
      have hw9 : 9 ≤ e.1 := by omega
      rcases h59 with ⟨rfl, h59⟩ | ⟨D1, rfl, hO1, h59, hg1⟩
      · have h59 : I1 59 K.length = nI 0 := h59
        refine rn_aload_n dX8_close_0 rfl rfl ?_
        refine rn_getI dX8_close_1 fd_8_182 (sk_l hs 44 (by decide)) (sk_k44 hs) rfl ?_
        refine rn_top (y := nI 1) (h26) ?_
        refine rn_if_eqN (tgt := 102) dX8_close_4 (by decide) (by omega) (fun c_4 => ?_) (fun c_4 => ?_)
        · exact absurd c_4 (by decide)
        · refine rn_aload_n dX8_close_7 rfl rfl ?_
          refine rn_getI dX8_close_8 fd_8_173 (sk_l hs 44 (by decide)) (sk_k44 hs) rfl ?_
          refine rn_top (y := nI (K.length + 1)) (h21) ?_
          refine rn_if_leN (tgt := 102) dX8_close_11 (by decide) (by omega) (fun c_11 => ?_) (fun c_11 => ?_)
          · omega
          · refine rn_aload_n dX8_close_14 rfl rfl ?_
            refine rn_getI dX8_close_15 fd_8_173 (sk_l hs 44 (by decide)) (sk_k44 hs) rfl ?_
            refine rn_top (y := nI (K.length + 1)) (h21) ?_
            refine rn_iconst (v := nI 1) dX8_close_18 (by decide) ?_
            refine rn_isub dX8_close_19 ?_
            refine rn_top (pk_sub (by omega)) ?_
            refine rn_top (y := nI K.length) (by rw [Nat.add_sub_cancel]) ?_
            refine rn_istore_n (ls' := [some (.ref 44), some (.int (nI K.length)), none]) dX8_close_20 rfl (by decide) rfl rfl ?_
            refine rn_aload_n dX8_close_21 rfl rfl ?_
            refine rn_getR (r := 56) dX8_close_22 fd_8_52 (sk_l hs 44 (by decide)) (sk_k44 hs) rfl (sk_r44_22 hs) ?_
            refine rn_iload_n dX8_close_25 rfl rfl ?_
            refine rn_ialoadN dX8_close_26 (sk_l hs 56 (by decide)) (sk_k56 hs) (by omega) (by omega) ?_
            refine rn_top (y := nI e.1) (h56) ?_
            refine rn_istore_n (ls' := [some (.ref 44), some (.int (nI K.length)), some (.int (nI e.1))]) dX8_close_27 rfl (by decide) rfl rfl ?_
            refine rn_iload_n dX8_close_28 rfl rfl ?_
            refine rn_bipush (v := nI 8) dX8_close_29 (by decide) ?_
            refine rn_icmp_leN (tgt := 68) dX8_close_31 (by decide) (by omega) (by omega) (fun c_31 => ?_) (fun c_31 => ?_)
            · omega
            · refine rn_aload_n dX8_close_34 rfl rfl ?_
              refine rn_getR (r := 59) dX8_close_35 fd_8_61 (sk_l hs 44 (by decide)) (sk_k44 hs) rfl (sk_r44_25 hs) ?_
              refine rn_iload_n dX8_close_38 rfl rfl ?_
              refine rn_baloadN dX8_close_39 (sk_l hs 59 (by decide)) (sk_k59 hs) (by decide) (by omega) (by omega) ?_
              refine rn_top (y := nI 0) (h59) ?_
              refine rn_if_neN (tgt := 68) dX8_close_40 (by decide) (by omega) (fun c_40 => ?_) (fun c_40 => ?_)
              · exact absurd c_40 (by decide)
              · refine rn_aload_n dX8_close_43 rfl rfl ?_
                refine rn_getR (r := 59) dX8_close_44 fd_8_61 (sk_l hs 44 (by decide)) (sk_k44 hs) rfl (sk_r44_25 hs) ?_
                refine rn_iload_n dX8_close_47 rfl rfl ?_
                refine rn_iconst (v := nI 1) dX8_close_48 (by decide) ?_
                refine rn_zastoreN dX8_close_49 (sk_l hs 59 (by decide)) (sk_k59 hs) (by omega) (by omega) (by decide) ?_
                refine rn_aload_n dX8_close_50 rfl rfl ?_
                refine rn_bipush (v := nI 18) dX8_close_51 (by decide) ?_
                refine rn_bipush (v := nI 9) dX8_close_53 (by decide) ?_
                refine rn_iload_n dX8_close_55 rfl rfl ?_
                refine rn_iadd dX8_close_56 ?_
                refine rn_top (nI_add _ _) ?_
                refine rn_callV0 (st := []) dX8_close_57 cf_8_128 (m_copyD hs (f := 18) (g := 9 + K.length) (by decide) (by omega) (by omega) hO (hD.up (Or.inr (by decide)) _)) (by omega) (sk_l hs 44 (by decide)) (sk_k44 hs) rfl rfl (Nat.le_of_ble_eq_true rfl) (fun r1 S1 I3 hq => ?_)
                obtain ⟨rfl, rfl, hD3, hF3⟩ := hq
                have h44 : I3 44 = (am_up I1 59 K.length (nI 1)) 44 := hF3.1 44 (by decide) (by decide) (by decide)
                have hS4 : stF K.length I1 (am_up I3 44 26 (nI 0)) := ((stF.rf.up (Or.inr (Or.inl ⟨by decide, Nat.le_refl _⟩)) (nI 1)).trans (gfr.st hF3 (fun g q => by omega))).up (Or.inl rfl) _
                refine rn_aload_n dX8_close_60 rfl rfl ?_
                refine rn_iconst (v := nI 0) dX8_close_61 (by decide) ?_
                refine rn_putI dX8_close_62 fd_8_182 (sk_l hs 44 (by decide)) (sk_k44 hs) rfl rfl (by decide) (by decide) ?_
                refine rn_goto (tgt := 99) dX8_close_65 (by decide) ?_
                refine rn_goto (tgt := 0) dX8_close_99 (by decide) ?_
                refine rn_aload_n dX8_close_0 rfl rfl ?_
                refine rn_getI dX8_close_1 fd_8_182 (sk_l hs 44 (by decide)) (sk_k44 hs) rfl ?_
                refine rn_top (y := nI 0) (by simp [am_up, va_up]) ?_
                refine rn_if_eqN (tgt := 102) dX8_close_4 (by decide) (by omega) (fun c_4 => ?_) (fun c_4 => ?_)
                · refine rn_iconst (v := nI 0) dX8_close_102 (by decide) ?_
                  refine rn_ireturn dX8_close_103 rfl (vp_nar_int _) ?_
                  refine ⟨rfl, ((hF.up (Or.inr (by decide)) _).trans (gfr.fm hF3 (fun g q => by omega))).up (Or.inl (by decide)) _, ?_, Or.inr (Or.inr ⟨(e, some D) :: K, ?_, rfl, ⟨⟨hE, ?_, ?_, ?_, ?_, Or.inr ⟨D, rfl, hO, ?_, hD3.up (Or.inl (by decide)) _⟩⟩, hst0.moved hS4⟩, hK8, by rw [am_up_at], ?_⟩)⟩
                  · rw [am_up_k _ _ (by decide), h44, am_up_a _ _ (by decide)]; exact h17
                  · rw [← hX]; simp only [pC]; rw [if_neg (by omega)]
                  · show am_up I3 44 26 (nI 0) 56 K.length = nI e.1
                    rw [am_up_a _ _ (by decide), hF3.1 56 (by decide) (by decide) (by decide), am_up_a _ _ (by decide)]; exact h56
                  · show am_up I3 44 26 (nI 0) 57 K.length = nI e.2.1
                    rw [am_up_a _ _ (by decide), hF3.1 57 (by decide) (by decide) (by decide), am_up_a _ _ (by decide)]; exact h57
                  · rw [am_up_a _ _ (by decide), hF3.1 58 (by decide) (by decide) (by decide), am_up_a _ _ (by decide)]; exact h58
                  · rw [am_up_a _ _ (by decide), hF3.1 58 (by decide) (by decide) (by decide), am_up_a _ _ (by decide)]; exact h58r
                  · show am_up I3 44 26 (nI 0) 59 K.length = nI 1
                    rw [am_up_a _ _ (by decide), hF3.1 59 (by decide) (by decide) (by decide), am_up_at]
                  · rw [am_up_k _ _ (by decide), h44, am_up_a _ _ (by decide)]; exact h21
                · exact absurd c_4 (by decide)
      · have h59 : I1 59 K.length = nI 1 := h59
        have hg1 : grD I1 (9 + K.length) D1 := hg1
        by_cases hw : e.1 = 9
        · have hou : op2 e.1 D1 D = oBes D1 D := by unfold op2; rw [if_pos hw]
          rcases ho : oBes D1 D with _ | D8
          · have hop := hou.trans ho
            refine rn_aload_n dX8_close_0 rfl rfl ?_
            refine rn_getI dX8_close_1 fd_8_182 (sk_l hs 44 (by decide)) (sk_k44 hs) rfl ?_
            refine rn_top (y := nI 1) (h26) ?_
            refine rn_if_eqN (tgt := 102) dX8_close_4 (by decide) (by omega) (fun c_4 => ?_) (fun c_4 => ?_)
            · exact absurd c_4 (by decide)
            · refine rn_aload_n dX8_close_7 rfl rfl ?_
              refine rn_getI dX8_close_8 fd_8_173 (sk_l hs 44 (by decide)) (sk_k44 hs) rfl ?_
              refine rn_top (y := nI (K.length + 1)) (h21) ?_
              refine rn_if_leN (tgt := 102) dX8_close_11 (by decide) (by omega) (fun c_11 => ?_) (fun c_11 => ?_)
              · omega
              · refine rn_aload_n dX8_close_14 rfl rfl ?_
                refine rn_getI dX8_close_15 fd_8_173 (sk_l hs 44 (by decide)) (sk_k44 hs) rfl ?_
                refine rn_top (y := nI (K.length + 1)) (h21) ?_
                refine rn_iconst (v := nI 1) dX8_close_18 (by decide) ?_
                refine rn_isub dX8_close_19 ?_
                refine rn_top (pk_sub (by omega)) ?_
                refine rn_top (y := nI K.length) (by rw [Nat.add_sub_cancel]) ?_
                refine rn_istore_n (ls' := [some (.ref 44), some (.int (nI K.length)), none]) dX8_close_20 rfl (by decide) rfl rfl ?_
                refine rn_aload_n dX8_close_21 rfl rfl ?_
                refine rn_getR (r := 56) dX8_close_22 fd_8_52 (sk_l hs 44 (by decide)) (sk_k44 hs) rfl (sk_r44_22 hs) ?_
                refine rn_iload_n dX8_close_25 rfl rfl ?_
                refine rn_ialoadN dX8_close_26 (sk_l hs 56 (by decide)) (sk_k56 hs) (by omega) (by omega) ?_
                refine rn_top (y := nI 9) (by rw [h56, hw]) ?_
                refine rn_istore_n (ls' := [some (.ref 44), some (.int (nI K.length)), some (.int (nI 9))]) dX8_close_27 rfl (by decide) rfl rfl ?_
                refine rn_iload_n dX8_close_28 rfl rfl ?_
                refine rn_bipush (v := nI 8) dX8_close_29 (by decide) ?_
                refine rn_icmp_leN (tgt := 68) dX8_close_31 (by decide) (by omega) (by omega) (fun c_31 => ?_) (fun c_31 => ?_)
                · exact absurd c_31 (by decide)
                · refine rn_aload_n dX8_close_34 rfl rfl ?_
                  refine rn_getR (r := 59) dX8_close_35 fd_8_61 (sk_l hs 44 (by decide)) (sk_k44 hs) rfl (sk_r44_25 hs) ?_
                  refine rn_iload_n dX8_close_38 rfl rfl ?_
                  refine rn_baloadN dX8_close_39 (sk_l hs 59 (by decide)) (sk_k59 hs) (by decide) (by omega) (by omega) ?_
                  refine rn_top (y := nI 1) (h59) ?_
                  refine rn_if_neN (tgt := 68) dX8_close_40 (by decide) (by omega) (fun c_40 => ?_) (fun c_40 => ?_)
                  · refine rn_aload_n dX8_close_68 rfl rfl ?_
                    refine rn_dup dX8_close_69 rfl ?_
                    refine rn_getI dX8_close_70 fd_8_173 (sk_l hs 44 (by decide)) (sk_k44 hs) rfl ?_
                    refine rn_top (y := nI (K.length + 1)) (h21) ?_
                    refine rn_iconst (v := nI 1) dX8_close_73 (by decide) ?_
                    refine rn_isub dX8_close_74 ?_
                    refine rn_top (pk_sub (by omega)) ?_
                    refine rn_top (y := nI K.length) (by rw [Nat.add_sub_cancel]) ?_
                    refine rn_putI dX8_close_75 fd_8_173 (sk_l hs 44 (by decide)) (sk_k44 hs) rfl rfl (vp_nar_int _) rfl ?_
                    refine rn_aload_n dX8_close_78 rfl rfl ?_
                    refine rn_iload_n dX8_close_79 rfl rfl ?_
                    refine rn_iload_n dX8_close_80 rfl rfl ?_
                    refine rn_callV0 (st := []) dX8_close_81 cf_8_186 (c_X8_isDone_9 hs hK7 hO1 hO (hg1.up (Or.inl (by decide)) _) hD2) (by omega) (sk_l hs 44 (by decide)) (sk_k44 hs) rfl rfl (Nat.le_of_ble_eq_true rfl) (fun r1 S1 I3 hq => ?_)
                    obtain ⟨rfl, rfl, hG3⟩ := hq.n ho
                    refine rn_if_neN (tgt := 99) dX8_close_84 (by decide) (by omega) (fun c_84 => ?_) (fun c_84 => ?_)
                    · exact absurd c_84 (by decide)
                    · refine rn_aload_n dX8_close_87 rfl rfl ?_
                      refine rn_aload_n dX8_close_88 rfl rfl ?_
                      refine rn_getR (r := 57) dX8_close_89 fd_8_55 (sk_l hs 44 (by decide)) (sk_k44 hs) rfl (sk_r44_23 hs) ?_
                      refine rn_iload_n dX8_close_92 rfl rfl ?_
                      refine rn_ialoadN dX8_close_93 (sk_l hs 57 (by decide)) (sk_k57 hs) (by omega) (by omega) ?_
                      refine rn_top (y := nI e.2.1) (by rw [hG3.1 57 (by decide) (by decide) (by decide), am_up_a _ _ (by decide)]; exact h57) ?_
                      refine rn_putI dX8_close_94 fd_8_154 (sk_l hs 44 (by decide)) (sk_k44 hs) rfl rfl (vp_nar_int _) rfl ?_
                      refine rn_iconst (v := nI 4) dX8_close_97 (by decide) ?_
                      refine rn_ireturn dX8_close_98 rfl (vp_nar_int _) ?_
                      refine ⟨rfl, (hF2.trans hG3.fm).up (Or.inl (by decide)) _, ?_, Or.inl ⟨(4, e.2.1), ?_, rfl, by rw [am_up_at]⟩⟩
                      · rw [am_up_k _ _ (by decide), hG3.1 44 (by decide) (by decide) (by decide), am_up_k _ _ (by decide)]; exact h17
                      · rw [← hX]; simp only [pC]; rw [if_neg (by omega), hop]
                  · exact absurd c_40 (by decide)
          · have hop := hou.trans ho
            refine rn_aload_n dX8_close_0 rfl rfl ?_
            refine rn_getI dX8_close_1 fd_8_182 (sk_l hs 44 (by decide)) (sk_k44 hs) rfl ?_
            refine rn_top (y := nI 1) (h26) ?_
            refine rn_if_eqN (tgt := 102) dX8_close_4 (by decide) (by omega) (fun c_4 => ?_) (fun c_4 => ?_)
            · exact absurd c_4 (by decide)
            · refine rn_aload_n dX8_close_7 rfl rfl ?_
              refine rn_getI dX8_close_8 fd_8_173 (sk_l hs 44 (by decide)) (sk_k44 hs) rfl ?_
              refine rn_top (y := nI (K.length + 1)) (h21) ?_
              refine rn_if_leN (tgt := 102) dX8_close_11 (by decide) (by omega) (fun c_11 => ?_) (fun c_11 => ?_)
              · omega
              · refine rn_aload_n dX8_close_14 rfl rfl ?_
                refine rn_getI dX8_close_15 fd_8_173 (sk_l hs 44 (by decide)) (sk_k44 hs) rfl ?_
                refine rn_top (y := nI (K.length + 1)) (h21) ?_
                refine rn_iconst (v := nI 1) dX8_close_18 (by decide) ?_
                refine rn_isub dX8_close_19 ?_
                refine rn_top (pk_sub (by omega)) ?_
                refine rn_top (y := nI K.length) (by rw [Nat.add_sub_cancel]) ?_
                refine rn_istore_n (ls' := [some (.ref 44), some (.int (nI K.length)), none]) dX8_close_20 rfl (by decide) rfl rfl ?_
                refine rn_aload_n dX8_close_21 rfl rfl ?_
                refine rn_getR (r := 56) dX8_close_22 fd_8_52 (sk_l hs 44 (by decide)) (sk_k44 hs) rfl (sk_r44_22 hs) ?_
                refine rn_iload_n dX8_close_25 rfl rfl ?_
                refine rn_ialoadN dX8_close_26 (sk_l hs 56 (by decide)) (sk_k56 hs) (by omega) (by omega) ?_
                refine rn_top (y := nI 9) (by rw [h56, hw]) ?_
                refine rn_istore_n (ls' := [some (.ref 44), some (.int (nI K.length)), some (.int (nI 9))]) dX8_close_27 rfl (by decide) rfl rfl ?_
                refine rn_iload_n dX8_close_28 rfl rfl ?_
                refine rn_bipush (v := nI 8) dX8_close_29 (by decide) ?_
                refine rn_icmp_leN (tgt := 68) dX8_close_31 (by decide) (by omega) (by omega) (fun c_31 => ?_) (fun c_31 => ?_)
                · exact absurd c_31 (by decide)
                · refine rn_aload_n dX8_close_34 rfl rfl ?_
                  refine rn_getR (r := 59) dX8_close_35 fd_8_61 (sk_l hs 44 (by decide)) (sk_k44 hs) rfl (sk_r44_25 hs) ?_
                  refine rn_iload_n dX8_close_38 rfl rfl ?_
                  refine rn_baloadN dX8_close_39 (sk_l hs 59 (by decide)) (sk_k59 hs) (by decide) (by omega) (by omega) ?_
                  refine rn_top (y := nI 1) (h59) ?_
                  refine rn_if_neN (tgt := 68) dX8_close_40 (by decide) (by omega) (fun c_40 => ?_) (fun c_40 => ?_)
                  · refine rn_aload_n dX8_close_68 rfl rfl ?_
                    refine rn_dup dX8_close_69 rfl ?_
                    refine rn_getI dX8_close_70 fd_8_173 (sk_l hs 44 (by decide)) (sk_k44 hs) rfl ?_
                    refine rn_top (y := nI (K.length + 1)) (h21) ?_
                    refine rn_iconst (v := nI 1) dX8_close_73 (by decide) ?_
                    refine rn_isub dX8_close_74 ?_
                    refine rn_top (pk_sub (by omega)) ?_
                    refine rn_top (y := nI K.length) (by rw [Nat.add_sub_cancel]) ?_
                    refine rn_putI dX8_close_75 fd_8_173 (sk_l hs 44 (by decide)) (sk_k44 hs) rfl rfl (vp_nar_int _) rfl ?_
                    refine rn_aload_n dX8_close_78 rfl rfl ?_
                    refine rn_iload_n dX8_close_79 rfl rfl ?_
                    refine rn_iload_n dX8_close_80 rfl rfl ?_
                    refine rn_callV0 (st := []) dX8_close_81 cf_8_186 (c_X8_isDone_9 hs hK7 hO1 hO (hg1.up (Or.inl (by decide)) _) hD2) (by omega) (sk_l hs 44 (by decide)) (sk_k44 hs) rfl rfl (Nat.le_of_ble_eq_true rfl) (fun r1 S1 I3 hq => ?_)
                    obtain ⟨rfl, rfl, hG3, hD3⟩ := hq.s ho
                    refine rn_if_neN (tgt := 99) dX8_close_84 (by decide) (by omega) (fun c_84 => ?_) (fun c_84 => ?_)
                    · refine rn_goto (tgt := 0) dX8_close_99 (by decide) ?_
                      refine rn_ls (ls' := [some (.ref 44), none, none]) rfl (fun i x h => by rcases i with _ | _ | _ | i <;> first | exact h | (simp at h)) ?_
                      have h44 : I3 44 = (am_up I1 44 21 (nI K.length)) 44 := hG3.1 44 (by decide) (by decide) (by decide)
                      refine ih D8 I3 (hF2.trans hG3.fm) ?_ (by omega) (hst0.moved (hS2.trans (hG3.st (by omega)))) (okD_2 hO1 hO hop) hD3 ?_ ?_ ?_
                      · rw [h44, am_up_k _ _ (by decide)]; exact h17
                      · rw [h44, am_up_k _ _ (by decide)]; exact h26
                      · rw [h44, am_up_at]
                      · rw [← hX]; simp only [pC]; rw [if_neg (by omega), hop]
                    · exact absurd c_84 (by decide)
                  · exact absurd c_40 (by decide)
        by_cases hw : e.1 = 10
        · have hou : op2 e.1 D1 D = oAbv D1 D := by unfold op2; rw [if_neg (by omega), if_pos hw]
          rcases ho : oAbv D1 D with _ | D8
          · have hop := hou.trans ho
            refine rn_aload_n dX8_close_0 rfl rfl ?_
            refine rn_getI dX8_close_1 fd_8_182 (sk_l hs 44 (by decide)) (sk_k44 hs) rfl ?_
            refine rn_top (y := nI 1) (h26) ?_
            refine rn_if_eqN (tgt := 102) dX8_close_4 (by decide) (by omega) (fun c_4 => ?_) (fun c_4 => ?_)
            · exact absurd c_4 (by decide)
            · refine rn_aload_n dX8_close_7 rfl rfl ?_
              refine rn_getI dX8_close_8 fd_8_173 (sk_l hs 44 (by decide)) (sk_k44 hs) rfl ?_
              refine rn_top (y := nI (K.length + 1)) (h21) ?_
              refine rn_if_leN (tgt := 102) dX8_close_11 (by decide) (by omega) (fun c_11 => ?_) (fun c_11 => ?_)
              · omega
              · refine rn_aload_n dX8_close_14 rfl rfl ?_
                refine rn_getI dX8_close_15 fd_8_173 (sk_l hs 44 (by decide)) (sk_k44 hs) rfl ?_
                refine rn_top (y := nI (K.length + 1)) (h21) ?_
                refine rn_iconst (v := nI 1) dX8_close_18 (by decide) ?_
                refine rn_isub dX8_close_19 ?_
                refine rn_top (pk_sub (by omega)) ?_
                refine rn_top (y := nI K.length) (by rw [Nat.add_sub_cancel]) ?_
                refine rn_istore_n (ls' := [some (.ref 44), some (.int (nI K.length)), none]) dX8_close_20 rfl (by decide) rfl rfl ?_
                refine rn_aload_n dX8_close_21 rfl rfl ?_
                refine rn_getR (r := 56) dX8_close_22 fd_8_52 (sk_l hs 44 (by decide)) (sk_k44 hs) rfl (sk_r44_22 hs) ?_
                refine rn_iload_n dX8_close_25 rfl rfl ?_
                refine rn_ialoadN dX8_close_26 (sk_l hs 56 (by decide)) (sk_k56 hs) (by omega) (by omega) ?_
                refine rn_top (y := nI 10) (by rw [h56, hw]) ?_
                refine rn_istore_n (ls' := [some (.ref 44), some (.int (nI K.length)), some (.int (nI 10))]) dX8_close_27 rfl (by decide) rfl rfl ?_
                refine rn_iload_n dX8_close_28 rfl rfl ?_
                refine rn_bipush (v := nI 8) dX8_close_29 (by decide) ?_
                refine rn_icmp_leN (tgt := 68) dX8_close_31 (by decide) (by omega) (by omega) (fun c_31 => ?_) (fun c_31 => ?_)
                · exact absurd c_31 (by decide)
                · refine rn_aload_n dX8_close_34 rfl rfl ?_
                  refine rn_getR (r := 59) dX8_close_35 fd_8_61 (sk_l hs 44 (by decide)) (sk_k44 hs) rfl (sk_r44_25 hs) ?_
                  refine rn_iload_n dX8_close_38 rfl rfl ?_
                  refine rn_baloadN dX8_close_39 (sk_l hs 59 (by decide)) (sk_k59 hs) (by decide) (by omega) (by omega) ?_
                  refine rn_top (y := nI 1) (h59) ?_
                  refine rn_if_neN (tgt := 68) dX8_close_40 (by decide) (by omega) (fun c_40 => ?_) (fun c_40 => ?_)
                  · refine rn_aload_n dX8_close_68 rfl rfl ?_
                    refine rn_dup dX8_close_69 rfl ?_
                    refine rn_getI dX8_close_70 fd_8_173 (sk_l hs 44 (by decide)) (sk_k44 hs) rfl ?_
                    refine rn_top (y := nI (K.length + 1)) (h21) ?_
                    refine rn_iconst (v := nI 1) dX8_close_73 (by decide) ?_
                    refine rn_isub dX8_close_74 ?_
                    refine rn_top (pk_sub (by omega)) ?_
                    refine rn_top (y := nI K.length) (by rw [Nat.add_sub_cancel]) ?_
                    refine rn_putI dX8_close_75 fd_8_173 (sk_l hs 44 (by decide)) (sk_k44 hs) rfl rfl (vp_nar_int _) rfl ?_
                    refine rn_aload_n dX8_close_78 rfl rfl ?_
                    refine rn_iload_n dX8_close_79 rfl rfl ?_
                    refine rn_iload_n dX8_close_80 rfl rfl ?_
                    refine rn_callV0 (st := []) dX8_close_81 cf_8_186 (c_X8_isDone_10 hs hK7 hO1 hO (hg1.up (Or.inl (by decide)) _) hD2) (by omega) (sk_l hs 44 (by decide)) (sk_k44 hs) rfl rfl (Nat.le_of_ble_eq_true rfl) (fun r1 S1 I3 hq => ?_)
                    obtain ⟨rfl, rfl, hG3⟩ := hq.n ho
                    refine rn_if_neN (tgt := 99) dX8_close_84 (by decide) (by omega) (fun c_84 => ?_) (fun c_84 => ?_)
                    · exact absurd c_84 (by decide)
                    · refine rn_aload_n dX8_close_87 rfl rfl ?_
                      refine rn_aload_n dX8_close_88 rfl rfl ?_
                      refine rn_getR (r := 57) dX8_close_89 fd_8_55 (sk_l hs 44 (by decide)) (sk_k44 hs) rfl (sk_r44_23 hs) ?_
                      refine rn_iload_n dX8_close_92 rfl rfl ?_
                      refine rn_ialoadN dX8_close_93 (sk_l hs 57 (by decide)) (sk_k57 hs) (by omega) (by omega) ?_
                      refine rn_top (y := nI e.2.1) (by rw [hG3.1 57 (by decide) (by decide) (by decide), am_up_a _ _ (by decide)]; exact h57) ?_
                      refine rn_putI dX8_close_94 fd_8_154 (sk_l hs 44 (by decide)) (sk_k44 hs) rfl rfl (vp_nar_int _) rfl ?_
                      refine rn_iconst (v := nI 4) dX8_close_97 (by decide) ?_
                      refine rn_ireturn dX8_close_98 rfl (vp_nar_int _) ?_
                      refine ⟨rfl, (hF2.trans hG3.fm).up (Or.inl (by decide)) _, ?_, Or.inl ⟨(4, e.2.1), ?_, rfl, by rw [am_up_at]⟩⟩
                      · rw [am_up_k _ _ (by decide), hG3.1 44 (by decide) (by decide) (by decide), am_up_k _ _ (by decide)]; exact h17
                      · rw [← hX]; simp only [pC]; rw [if_neg (by omega), hop]
                  · exact absurd c_40 (by decide)
          · have hop := hou.trans ho
            refine rn_aload_n dX8_close_0 rfl rfl ?_
            refine rn_getI dX8_close_1 fd_8_182 (sk_l hs 44 (by decide)) (sk_k44 hs) rfl ?_
            refine rn_top (y := nI 1) (h26) ?_
            refine rn_if_eqN (tgt := 102) dX8_close_4 (by decide) (by omega) (fun c_4 => ?_) (fun c_4 => ?_)
            · exact absurd c_4 (by decide)
            · refine rn_aload_n dX8_close_7 rfl rfl ?_
              refine rn_getI dX8_close_8 fd_8_173 (sk_l hs 44 (by decide)) (sk_k44 hs) rfl ?_
              refine rn_top (y := nI (K.length + 1)) (h21) ?_
              refine rn_if_leN (tgt := 102) dX8_close_11 (by decide) (by omega) (fun c_11 => ?_) (fun c_11 => ?_)
              · omega
              · refine rn_aload_n dX8_close_14 rfl rfl ?_
                refine rn_getI dX8_close_15 fd_8_173 (sk_l hs 44 (by decide)) (sk_k44 hs) rfl ?_
                refine rn_top (y := nI (K.length + 1)) (h21) ?_
                refine rn_iconst (v := nI 1) dX8_close_18 (by decide) ?_
                refine rn_isub dX8_close_19 ?_
                refine rn_top (pk_sub (by omega)) ?_
                refine rn_top (y := nI K.length) (by rw [Nat.add_sub_cancel]) ?_
                refine rn_istore_n (ls' := [some (.ref 44), some (.int (nI K.length)), none]) dX8_close_20 rfl (by decide) rfl rfl ?_
                refine rn_aload_n dX8_close_21 rfl rfl ?_
                refine rn_getR (r := 56) dX8_close_22 fd_8_52 (sk_l hs 44 (by decide)) (sk_k44 hs) rfl (sk_r44_22 hs) ?_
                refine rn_iload_n dX8_close_25 rfl rfl ?_
                refine rn_ialoadN dX8_close_26 (sk_l hs 56 (by decide)) (sk_k56 hs) (by omega) (by omega) ?_
                refine rn_top (y := nI 10) (by rw [h56, hw]) ?_
                refine rn_istore_n (ls' := [some (.ref 44), some (.int (nI K.length)), some (.int (nI 10))]) dX8_close_27 rfl (by decide) rfl rfl ?_
                refine rn_iload_n dX8_close_28 rfl rfl ?_
                refine rn_bipush (v := nI 8) dX8_close_29 (by decide) ?_
                refine rn_icmp_leN (tgt := 68) dX8_close_31 (by decide) (by omega) (by omega) (fun c_31 => ?_) (fun c_31 => ?_)
                · exact absurd c_31 (by decide)
                · refine rn_aload_n dX8_close_34 rfl rfl ?_
                  refine rn_getR (r := 59) dX8_close_35 fd_8_61 (sk_l hs 44 (by decide)) (sk_k44 hs) rfl (sk_r44_25 hs) ?_
                  refine rn_iload_n dX8_close_38 rfl rfl ?_
                  refine rn_baloadN dX8_close_39 (sk_l hs 59 (by decide)) (sk_k59 hs) (by decide) (by omega) (by omega) ?_
                  refine rn_top (y := nI 1) (h59) ?_
                  refine rn_if_neN (tgt := 68) dX8_close_40 (by decide) (by omega) (fun c_40 => ?_) (fun c_40 => ?_)
                  · refine rn_aload_n dX8_close_68 rfl rfl ?_
                    refine rn_dup dX8_close_69 rfl ?_
                    refine rn_getI dX8_close_70 fd_8_173 (sk_l hs 44 (by decide)) (sk_k44 hs) rfl ?_
                    refine rn_top (y := nI (K.length + 1)) (h21) ?_
                    refine rn_iconst (v := nI 1) dX8_close_73 (by decide) ?_
                    refine rn_isub dX8_close_74 ?_
                    refine rn_top (pk_sub (by omega)) ?_
                    refine rn_top (y := nI K.length) (by rw [Nat.add_sub_cancel]) ?_
                    refine rn_putI dX8_close_75 fd_8_173 (sk_l hs 44 (by decide)) (sk_k44 hs) rfl rfl (vp_nar_int _) rfl ?_
                    refine rn_aload_n dX8_close_78 rfl rfl ?_
                    refine rn_iload_n dX8_close_79 rfl rfl ?_
                    refine rn_iload_n dX8_close_80 rfl rfl ?_
                    refine rn_callV0 (st := []) dX8_close_81 cf_8_186 (c_X8_isDone_10 hs hK7 hO1 hO (hg1.up (Or.inl (by decide)) _) hD2) (by omega) (sk_l hs 44 (by decide)) (sk_k44 hs) rfl rfl (Nat.le_of_ble_eq_true rfl) (fun r1 S1 I3 hq => ?_)
                    obtain ⟨rfl, rfl, hG3, hD3⟩ := hq.s ho
                    refine rn_if_neN (tgt := 99) dX8_close_84 (by decide) (by omega) (fun c_84 => ?_) (fun c_84 => ?_)
                    · refine rn_goto (tgt := 0) dX8_close_99 (by decide) ?_
                      refine rn_ls (ls' := [some (.ref 44), none, none]) rfl (fun i x h => by rcases i with _ | _ | _ | i <;> first | exact h | (simp at h)) ?_
                      have h44 : I3 44 = (am_up I1 44 21 (nI K.length)) 44 := hG3.1 44 (by decide) (by decide) (by decide)
                      refine ih D8 I3 (hF2.trans hG3.fm) ?_ (by omega) (hst0.moved (hS2.trans (hG3.st (by omega)))) (okD_2 hO1 hO hop) hD3 ?_ ?_ ?_
                      · rw [h44, am_up_k _ _ (by decide)]; exact h17
                      · rw [h44, am_up_k _ _ (by decide)]; exact h26
                      · rw [h44, am_up_at]
                      · rw [← hX]; simp only [pC]; rw [if_neg (by omega), hop]
                    · exact absurd c_84 (by decide)
                  · exact absurd c_40 (by decide)
        have hw : e.1 = 11 := by omega
        · have hou : op2 e.1 D1 D = oOvr D1 D := by unfold op2; rw [if_neg (by omega), if_neg (by omega)]
          rcases ho : oOvr D1 D with _ | D8
          · have hop := hou.trans ho
            refine rn_aload_n dX8_close_0 rfl rfl ?_
            refine rn_getI dX8_close_1 fd_8_182 (sk_l hs 44 (by decide)) (sk_k44 hs) rfl ?_
            refine rn_top (y := nI 1) (h26) ?_
            refine rn_if_eqN (tgt := 102) dX8_close_4 (by decide) (by omega) (fun c_4 => ?_) (fun c_4 => ?_)
            · exact absurd c_4 (by decide)
            · refine rn_aload_n dX8_close_7 rfl rfl ?_
              refine rn_getI dX8_close_8 fd_8_173 (sk_l hs 44 (by decide)) (sk_k44 hs) rfl ?_
              refine rn_top (y := nI (K.length + 1)) (h21) ?_
              refine rn_if_leN (tgt := 102) dX8_close_11 (by decide) (by omega) (fun c_11 => ?_) (fun c_11 => ?_)
              · omega
              · refine rn_aload_n dX8_close_14 rfl rfl ?_
                refine rn_getI dX8_close_15 fd_8_173 (sk_l hs 44 (by decide)) (sk_k44 hs) rfl ?_
                refine rn_top (y := nI (K.length + 1)) (h21) ?_
                refine rn_iconst (v := nI 1) dX8_close_18 (by decide) ?_
                refine rn_isub dX8_close_19 ?_
                refine rn_top (pk_sub (by omega)) ?_
                refine rn_top (y := nI K.length) (by rw [Nat.add_sub_cancel]) ?_
                refine rn_istore_n (ls' := [some (.ref 44), some (.int (nI K.length)), none]) dX8_close_20 rfl (by decide) rfl rfl ?_
                refine rn_aload_n dX8_close_21 rfl rfl ?_
                refine rn_getR (r := 56) dX8_close_22 fd_8_52 (sk_l hs 44 (by decide)) (sk_k44 hs) rfl (sk_r44_22 hs) ?_
                refine rn_iload_n dX8_close_25 rfl rfl ?_
                refine rn_ialoadN dX8_close_26 (sk_l hs 56 (by decide)) (sk_k56 hs) (by omega) (by omega) ?_
                refine rn_top (y := nI 11) (by rw [h56, hw]) ?_
                refine rn_istore_n (ls' := [some (.ref 44), some (.int (nI K.length)), some (.int (nI 11))]) dX8_close_27 rfl (by decide) rfl rfl ?_
                refine rn_iload_n dX8_close_28 rfl rfl ?_
                refine rn_bipush (v := nI 8) dX8_close_29 (by decide) ?_
                refine rn_icmp_leN (tgt := 68) dX8_close_31 (by decide) (by omega) (by omega) (fun c_31 => ?_) (fun c_31 => ?_)
                · exact absurd c_31 (by decide)
                · refine rn_aload_n dX8_close_34 rfl rfl ?_
                  refine rn_getR (r := 59) dX8_close_35 fd_8_61 (sk_l hs 44 (by decide)) (sk_k44 hs) rfl (sk_r44_25 hs) ?_
                  refine rn_iload_n dX8_close_38 rfl rfl ?_
                  refine rn_baloadN dX8_close_39 (sk_l hs 59 (by decide)) (sk_k59 hs) (by decide) (by omega) (by omega) ?_
                  refine rn_top (y := nI 1) (h59) ?_
                  refine rn_if_neN (tgt := 68) dX8_close_40 (by decide) (by omega) (fun c_40 => ?_) (fun c_40 => ?_)
                  · refine rn_aload_n dX8_close_68 rfl rfl ?_
                    refine rn_dup dX8_close_69 rfl ?_
                    refine rn_getI dX8_close_70 fd_8_173 (sk_l hs 44 (by decide)) (sk_k44 hs) rfl ?_
                    refine rn_top (y := nI (K.length + 1)) (h21) ?_
                    refine rn_iconst (v := nI 1) dX8_close_73 (by decide) ?_
                    refine rn_isub dX8_close_74 ?_
                    refine rn_top (pk_sub (by omega)) ?_
                    refine rn_top (y := nI K.length) (by rw [Nat.add_sub_cancel]) ?_
                    refine rn_putI dX8_close_75 fd_8_173 (sk_l hs 44 (by decide)) (sk_k44 hs) rfl rfl (vp_nar_int _) rfl ?_
                    refine rn_aload_n dX8_close_78 rfl rfl ?_
                    refine rn_iload_n dX8_close_79 rfl rfl ?_
                    refine rn_iload_n dX8_close_80 rfl rfl ?_
                    refine rn_callV0 (st := []) dX8_close_81 cf_8_186 (c_X8_isDone_11 hs hK7 hO1 hO (hg1.up (Or.inl (by decide)) _) hD2) (by omega) (sk_l hs 44 (by decide)) (sk_k44 hs) rfl rfl (Nat.le_of_ble_eq_true rfl) (fun r1 S1 I3 hq => ?_)
                    obtain ⟨rfl, rfl, hG3⟩ := hq.n ho
                    refine rn_if_neN (tgt := 99) dX8_close_84 (by decide) (by omega) (fun c_84 => ?_) (fun c_84 => ?_)
                    · exact absurd c_84 (by decide)
                    · refine rn_aload_n dX8_close_87 rfl rfl ?_
                      refine rn_aload_n dX8_close_88 rfl rfl ?_
                      refine rn_getR (r := 57) dX8_close_89 fd_8_55 (sk_l hs 44 (by decide)) (sk_k44 hs) rfl (sk_r44_23 hs) ?_
                      refine rn_iload_n dX8_close_92 rfl rfl ?_
                      refine rn_ialoadN dX8_close_93 (sk_l hs 57 (by decide)) (sk_k57 hs) (by omega) (by omega) ?_
                      refine rn_top (y := nI e.2.1) (by rw [hG3.1 57 (by decide) (by decide) (by decide), am_up_a _ _ (by decide)]; exact h57) ?_
                      refine rn_putI dX8_close_94 fd_8_154 (sk_l hs 44 (by decide)) (sk_k44 hs) rfl rfl (vp_nar_int _) rfl ?_
                      refine rn_iconst (v := nI 4) dX8_close_97 (by decide) ?_
                      refine rn_ireturn dX8_close_98 rfl (vp_nar_int _) ?_
                      refine ⟨rfl, (hF2.trans hG3.fm).up (Or.inl (by decide)) _, ?_, Or.inl ⟨(4, e.2.1), ?_, rfl, by rw [am_up_at]⟩⟩
                      · rw [am_up_k _ _ (by decide), hG3.1 44 (by decide) (by decide) (by decide), am_up_k _ _ (by decide)]; exact h17
                      · rw [← hX]; simp only [pC]; rw [if_neg (by omega), hop]
                  · exact absurd c_40 (by decide)
          · have hop := hou.trans ho
            refine rn_aload_n dX8_close_0 rfl rfl ?_
            refine rn_getI dX8_close_1 fd_8_182 (sk_l hs 44 (by decide)) (sk_k44 hs) rfl ?_
            refine rn_top (y := nI 1) (h26) ?_
            refine rn_if_eqN (tgt := 102) dX8_close_4 (by decide) (by omega) (fun c_4 => ?_) (fun c_4 => ?_)
            · exact absurd c_4 (by decide)
            · refine rn_aload_n dX8_close_7 rfl rfl ?_
              refine rn_getI dX8_close_8 fd_8_173 (sk_l hs 44 (by decide)) (sk_k44 hs) rfl ?_
              refine rn_top (y := nI (K.length + 1)) (h21) ?_
              refine rn_if_leN (tgt := 102) dX8_close_11 (by decide) (by omega) (fun c_11 => ?_) (fun c_11 => ?_)
              · omega
              · refine rn_aload_n dX8_close_14 rfl rfl ?_
                refine rn_getI dX8_close_15 fd_8_173 (sk_l hs 44 (by decide)) (sk_k44 hs) rfl ?_
                refine rn_top (y := nI (K.length + 1)) (h21) ?_
                refine rn_iconst (v := nI 1) dX8_close_18 (by decide) ?_
                refine rn_isub dX8_close_19 ?_
                refine rn_top (pk_sub (by omega)) ?_
                refine rn_top (y := nI K.length) (by rw [Nat.add_sub_cancel]) ?_
                refine rn_istore_n (ls' := [some (.ref 44), some (.int (nI K.length)), none]) dX8_close_20 rfl (by decide) rfl rfl ?_
                refine rn_aload_n dX8_close_21 rfl rfl ?_
                refine rn_getR (r := 56) dX8_close_22 fd_8_52 (sk_l hs 44 (by decide)) (sk_k44 hs) rfl (sk_r44_22 hs) ?_
                refine rn_iload_n dX8_close_25 rfl rfl ?_
                refine rn_ialoadN dX8_close_26 (sk_l hs 56 (by decide)) (sk_k56 hs) (by omega) (by omega) ?_
                refine rn_top (y := nI 11) (by rw [h56, hw]) ?_
                refine rn_istore_n (ls' := [some (.ref 44), some (.int (nI K.length)), some (.int (nI 11))]) dX8_close_27 rfl (by decide) rfl rfl ?_
                refine rn_iload_n dX8_close_28 rfl rfl ?_
                refine rn_bipush (v := nI 8) dX8_close_29 (by decide) ?_
                refine rn_icmp_leN (tgt := 68) dX8_close_31 (by decide) (by omega) (by omega) (fun c_31 => ?_) (fun c_31 => ?_)
                · exact absurd c_31 (by decide)
                · refine rn_aload_n dX8_close_34 rfl rfl ?_
                  refine rn_getR (r := 59) dX8_close_35 fd_8_61 (sk_l hs 44 (by decide)) (sk_k44 hs) rfl (sk_r44_25 hs) ?_
                  refine rn_iload_n dX8_close_38 rfl rfl ?_
                  refine rn_baloadN dX8_close_39 (sk_l hs 59 (by decide)) (sk_k59 hs) (by decide) (by omega) (by omega) ?_
                  refine rn_top (y := nI 1) (h59) ?_
                  refine rn_if_neN (tgt := 68) dX8_close_40 (by decide) (by omega) (fun c_40 => ?_) (fun c_40 => ?_)
                  · refine rn_aload_n dX8_close_68 rfl rfl ?_
                    refine rn_dup dX8_close_69 rfl ?_
                    refine rn_getI dX8_close_70 fd_8_173 (sk_l hs 44 (by decide)) (sk_k44 hs) rfl ?_
                    refine rn_top (y := nI (K.length + 1)) (h21) ?_
                    refine rn_iconst (v := nI 1) dX8_close_73 (by decide) ?_
                    refine rn_isub dX8_close_74 ?_
                    refine rn_top (pk_sub (by omega)) ?_
                    refine rn_top (y := nI K.length) (by rw [Nat.add_sub_cancel]) ?_
                    refine rn_putI dX8_close_75 fd_8_173 (sk_l hs 44 (by decide)) (sk_k44 hs) rfl rfl (vp_nar_int _) rfl ?_
                    refine rn_aload_n dX8_close_78 rfl rfl ?_
                    refine rn_iload_n dX8_close_79 rfl rfl ?_
                    refine rn_iload_n dX8_close_80 rfl rfl ?_
                    refine rn_callV0 (st := []) dX8_close_81 cf_8_186 (c_X8_isDone_11 hs hK7 hO1 hO (hg1.up (Or.inl (by decide)) _) hD2) (by omega) (sk_l hs 44 (by decide)) (sk_k44 hs) rfl rfl (Nat.le_of_ble_eq_true rfl) (fun r1 S1 I3 hq => ?_)
                    obtain ⟨rfl, rfl, hG3, hD3⟩ := hq.s ho
                    refine rn_if_neN (tgt := 99) dX8_close_84 (by decide) (by omega) (fun c_84 => ?_) (fun c_84 => ?_)
                    · refine rn_goto (tgt := 0) dX8_close_99 (by decide) ?_
                      refine rn_ls (ls' := [some (.ref 44), none, none]) rfl (fun i x h => by rcases i with _ | _ | _ | i <;> first | exact h | (simp at h)) ?_
                      have h44 : I3 44 = (am_up I1 44 21 (nI K.length)) 44 := hG3.1 44 (by decide) (by decide) (by decide)
                      refine ih D8 I3 (hF2.trans hG3.fm) ?_ (by omega) (hst0.moved (hS2.trans (hG3.st (by omega)))) (okD_2 hO1 hO hop) hD3 ?_ ?_ ?_
                      · rw [h44, am_up_k _ _ (by decide)]; exact h17
                      · rw [h44, am_up_k _ _ (by decide)]; exact h26
                      · rw [h44, am_up_at]
                      · rw [← hX]; simp only [pC]; rw [if_neg (by omega), hop]
                    · exact absurd c_84 (by decide)
                  · exact absurd c_40 (by decide)
  refine am_mt ⟨by decide +kernel, rfl⟩ (Nat.le_of_ble_eq_true rfl) rfl ?_
  exact LP _ K D I FM.rf rfl hK8 hst hO hD h26 h21 rfl
theorem am_up_same {I : am_I} {a k : Nat} {v : Int32} (h : I a k = v) : am_up I a k v = I := by
  funext b x
  by_cases h1 : b = a
  · subst h1
    by_cases h2 : x = k
    · subst h2; rw [am_up_at]; exact h.symm
    · exact am_up_k _ _ h2
  · rw [am_up_a _ _ h1]
theorem pB_err {n : Nat} {B : Nat → Nat} {Sh : Nat → Option Dw} {k p : Nat} {e : Nat × Nat} (h : pB n B Sh k p = .inl e) : 1 ≤ e.1 ∧ e.1 ≤ 4 := by
  have two : ∀ {lo hi q : Nat}, pN n B lo hi q = .inl e → 1 ≤ e.1 ∧ e.1 ≤ 4 := fun h => by have := pN_err h; omega
  unfold pB at h
  split at h
  · rw [← Sum.inl.inj h]; exact ⟨Nat.le_of_ble_eq_true rfl, Nat.le_of_ble_eq_true rfl⟩
  · split at h
    · rcases bnd_inl h with h | ⟨a, _, h⟩
      · exact two h
      · rcases bnd_inl h with h | ⟨b, _, h⟩
        · exact two h
        · exact absurd h (by simp)
    · split at h
      · rcases bnd_inl h with h | ⟨a, _, h⟩
        · exact two h
        · cases hS : Sh a.1 with
          | none => rw [hS] at h; rw [← Sum.inl.inj h]; exact ⟨Nat.le_of_ble_eq_true rfl, Nat.le_of_ble_eq_true rfl⟩
          | some D => rw [hS] at h; exact absurd h (by simp)
      · split at h
        · rw [← Sum.inl.inj h]; exact ⟨Nat.le_of_ble_eq_true rfl, Nat.le_of_ble_eq_true rfl⟩
        · split at h
          · rcases bnd_inl h with h | ⟨a, _, h⟩
            · exact two h
            · rcases bnd_inl h with h | ⟨b, _, h⟩
              · exact two h
              · rcases bnd_inl h with h | ⟨c, _, h⟩
                · exact two h
                · exact absurd h (by simp)
          · split at h
            · rcases bnd_inl h with h | ⟨a, _, h⟩
              · exact two h
              · exact absurd h (by simp)
            · exact absurd h (by simp)
theorem pC_err : ∀ {K : List (En × Option Dw)} {D : Dw} {e : Nat × Nat}, pC K D = .inl e → e.1 = 4
  | [], D, e, h => absurd h (by simp [pC])
  | (x, o) :: K, D, e, h => by
    simp only [pC] at h
    split at h
    · cases hU : opU x D with
      | none => rw [hU] at h; rw [← Sum.inl.inj h]
      | some D' => rw [hU] at h; exact pC_err h
    · cases o with
      | none => exact absurd h (by simp)
      | some D1 =>
        cases h2 : op2 x.1 D1 D with
        | none => simp only [h2] at h; rw [← Sum.inl.inj h]
        | some D' => simp only [h2] at h; exact pC_err h
theorem pE_err {n : Nat} {B : Nat → Nat} {Sh : Nat → Option Dw} : ∀ {k p : Nat} {e : Nat × Nat}, pE n B Sh k p = .inl e → 1 ≤ e.1 ∧ e.1 ≤ 4 := by
  intro k
  induction k with
  | zero =>
    intro p e h
    rw [pE_0] at h
    rcases bnd_inl h with h | ⟨x, _, h⟩
    · exact pB_err h
    · cases x with
      | inl Dq => exact absurd h (by simp)
      | inr y => rw [← Sum.inl.inj h]; exact ⟨Nat.le_of_ble_eq_true rfl, Nat.le_of_ble_eq_true rfl⟩
  | succ k ih =>
    intro p e h
    have op4 : ∀ {C : Type} {s : Nat} {o : Option C}, opt (4, s) o = .inl e → 1 ≤ e.1 ∧ e.1 ≤ 4 := fun {C s o} h => by
      cases o with
      | none => rw [← Sum.inl.inj h]; exact ⟨Nat.le_of_ble_eq_true rfl, Nat.le_of_ble_eq_true rfl⟩
      | some a => exact absurd h (by simp [opt])
    rw [pE_s] at h
    rcases bnd_inl h with h | ⟨x, _, h⟩
    · exact pB_err h
    · cases x with
      | inl Dq => exact absurd h (by simp)
      | inr y =>
        rcases bnd_inl h with h | ⟨d, _, h⟩
        · exact ih h
        · split at h
          · exact op4 h
          · rcases bnd_inl h with h | ⟨d2, _, h⟩
            · exact ih h
            · exact op4 h
theorem pT_err {n : Nat} {B : Nat → Nat} {Sh : Nat → Option Dw} {e : Nat × Nat} (h : pT n B Sh = .inl e) : 1 ≤ e.1 ∧ e.1 ≤ 4 := by
  unfold pT at h
  rcases bnd_inl h with h | ⟨x, _, h⟩
  · exact pE_err h
  · split at h
    · exact absurd h (by simp)
    · rw [← Sum.inl.inj h]; exact ⟨Nat.le_of_ble_eq_true rfl, Nat.le_of_ble_eq_true rfl⟩
/-- what reading a whole text comes to, in the reference -/
def RM (S : am_S) (I : am_I) (X : (Nat × Nat) ⊕ Dw) (r : Option Value) (S' : am_S) (I' : am_I) : Prop := S' = S ∧ FM I I' ∧ ((∃ e, X = .inl e ∧ r = some (.int (nI e.1)) ∧ I' 44 18 = nI e.2) ∨ ∃ D, X = .inr D ∧ r = some (.int (nI 0)) ∧ okD D ∧ grD I' 18 D)
theorem RM.l {S : am_S} {I : am_I} {X : (Nat × Nat) ⊕ Dw} {r : Option Value} {S' : am_S} {I' : am_I} {e : Nat × Nat} (h : RM S I X r S' I') (hX : X = .inl e) : r = some (.int (nI e.1)) ∧ S' = S ∧ FM I I' ∧ I' 44 18 = nI e.2 := by
  obtain ⟨h1, h2, ⟨e', g1, g2, g3⟩ | ⟨d, g1, _⟩⟩ := h
  · rw [hX] at g1; rw [Sum.inl.inj g1]; exact ⟨g2, h1, h2, g3⟩
  · rw [hX] at g1; exact absurd g1 (by simp)
theorem RM.r {S : am_S} {I : am_I} {X : (Nat × Nat) ⊕ Dw} {r : Option Value} {S' : am_S} {I' : am_I} {D : Dw} (h : RM S I X r S' I') (hX : X = .inr D) : r = some (.int (nI 0)) ∧ S' = S ∧ FM I I' ∧ okD D ∧ grD I' 18 D := by
  obtain ⟨h1, h2, ⟨e', g1, _⟩ | ⟨d, g1, g2, g3⟩⟩ := h
  · rw [hX] at g1; exact absurd g1 (by simp)
  · rw [hX] at g1; rw [Sum.inr.inj g1]; exact ⟨g2, h1, h2, g3⟩
theorem BX.l {S : am_S} {n : Nat} {B : Nat → Nat} {m : Nat} {I : am_I} {X : (Nat × Nat) ⊕ ((Dw × Nat) ⊕ (En × Nat))} {r : Option Value} {S' : am_S} {I' : am_I} {e : Nat × Nat} (h : BX S n B m I X r S' I') (hX : X = .inl e) : r = some (.int (nI e.1)) ∧ S' = S ∧ FM I I' ∧ stF m I I' ∧ I' 44 18 = nI e.2 := by
  obtain ⟨h1, h2, h3, ⟨e', g1, g2⟩ | ⟨D, q, g1, _⟩ | ⟨e', q, g1, _⟩⟩ := h
  · rw [hX] at g1; rw [Sum.inl.inj g1]; exact ⟨g2.1, h1, h2, h3, g2.2⟩
  · rw [hX] at g1; exact absurd g1 (by simp)
  · rw [hX] at g1; exact absurd g1 (by simp)
theorem BX.d {S : am_S} {n : Nat} {B : Nat → Nat} {m : Nat} {I : am_I} {X : (Nat × Nat) ⊕ ((Dw × Nat) ⊕ (En × Nat))} {r : Option Value} {S' : am_S} {I' : am_I} {D : Dw} {q : Nat} (h : BX S n B m I X r S' I') (hX : X = .inr (.inl (D, q))) : r = some (.int (nI 0)) ∧ S' = S ∧ FM I I' ∧ stF m I I' ∧ grD I' 18 D ∧ I' 44 26 = nI 1 ∧ I' 44 21 = nI m ∧ I' 44 17 = nI q := by
  obtain ⟨h1, h2, h3, ⟨e', g1, g2⟩ | ⟨D', q', g1, g2⟩ | ⟨e', q', g1, _⟩⟩ := h
  · rw [hX] at g1; exact absurd g1 (by simp)
  · rw [hX] at g1
    have g3 := Sum.inl.inj (Sum.inr.inj g1)
    have e1 : D = D' := congrArg Prod.fst g3
    have e2 : q = q' := congrArg Prod.snd g3
    rw [e1, e2]; exact ⟨g2.1, h1, h2, h3, g2.2⟩
  · rw [hX] at g1; exact absurd (Sum.inr.inj g1) (by simp)
theorem BX.e {S : am_S} {n : Nat} {B : Nat → Nat} {m : Nat} {I : am_I} {X : (Nat × Nat) ⊕ ((Dw × Nat) ⊕ (En × Nat))} {r : Option Value} {S' : am_S} {I' : am_I} {e : En} {q : Nat} (h : BX S n B m I X r S' I') (hX : X = .inr (.inr (e, q))) : r = some (.int (nI 0)) ∧ S' = S ∧ FM I I' ∧ stF m I I' ∧ enX I' m e none ∧ I' 44 26 = nI 0 ∧ I' 44 21 = nI (m + 1) ∧ SN n B q I' := by
  obtain ⟨h1, h2, h3, ⟨e', g1, g2⟩ | ⟨D', q', g1, g2⟩ | ⟨e', q', g1, g2⟩⟩ := h
  · rw [hX] at g1; exact absurd g1 (by simp)
  · rw [hX] at g1; exact absurd (Sum.inr.inj g1) (by simp)
  · rw [hX] at g1
    have g3 := Sum.inr.inj (Sum.inr.inj g1)
    have e1 : e = e' := congrArg Prod.fst g3
    have e2 : q = q' := congrArg Prod.snd g3
    rw [e1, e2]; exact ⟨g2.1, h1, h2, h3, g2.2⟩
theorem CX.l {S : am_S} {I : am_I} {X : (Nat × Nat) ⊕ (Dw ⊕ List (En × Option Dw))} {r : Option Value} {S' : am_S} {I' : am_I} {e : Nat × Nat} (h : CX S I X r S' I') (hX : X = .inl e) : r = some (.int (nI e.1)) ∧ S' = S ∧ FM I I' ∧ I' 44 17 = I 44 17 ∧ I' 44 18 = nI e.2 := by
  obtain ⟨h1, h2, h3, ⟨e', g1, g2⟩ | ⟨D, g1, _⟩ | ⟨e', g1, _⟩⟩ := h
  · rw [hX] at g1; rw [Sum.inl.inj g1]; exact ⟨g2.1, h1, h2, h3, g2.2⟩
  · rw [hX] at g1; exact absurd g1 (by simp)
  · rw [hX] at g1; exact absurd g1 (by simp)
theorem CX.d {S : am_S} {I : am_I} {X : (Nat × Nat) ⊕ (Dw ⊕ List (En × Option Dw))} {r : Option Value} {S' : am_S} {I' : am_I} {D : Dw} (h : CX S I X r S' I') (hX : X = .inr (.inl D)) : r = some (.int (nI 0)) ∧ S' = S ∧ FM I I' ∧ I' 44 17 = I 44 17 ∧ okD D ∧ grD I' 18 D ∧ I' 44 26 = nI 1 ∧ I' 44 21 = nI 0 := by
  obtain ⟨h1, h2, h3, ⟨e', g1, g2⟩ | ⟨D', g1, g2⟩ | ⟨e', g1, _⟩⟩ := h
  · rw [hX] at g1; exact absurd g1 (by simp)
  · rw [hX] at g1; rw [Sum.inl.inj (Sum.inr.inj g1)]; exact ⟨g2.1, h1, h2, h3, g2.2⟩
  · rw [hX] at g1; exact absurd (Sum.inr.inj g1) (by simp)
theorem CX.k {S : am_S} {I : am_I} {X : (Nat × Nat) ⊕ (Dw ⊕ List (En × Option Dw))} {r : Option Value} {S' : am_S} {I' : am_I} {K : List (En × Option Dw)} (h : CX S I X r S' I') (hX : X = .inr (.inr K)) : r = some (.int (nI 0)) ∧ S' = S ∧ FM I I' ∧ I' 44 17 = I 44 17 ∧ stX I' K ∧ K.length ≤ 8 ∧ I' 44 26 = nI 0 ∧ I' 44 21 = nI K.length := by
  obtain ⟨h1, h2, h3, ⟨e', g1, g2⟩ | ⟨D', g1, g2⟩ | ⟨e', g1, g2⟩⟩ := h
  · rw [hX] at g1; exact absurd g1 (by simp)
  · rw [hX] at g1; exact absurd (Sum.inr.inj g1) (by simp)
  · rw [hX] at g1; rw [Sum.inr.inj (Sum.inr.inj g1)]; exact ⟨g2.1, h1, h2, h3, g2.2⟩
set_option maxHeartbeats 1000000 in
set_option maxRecDepth 100000 in
theorem c_X8_read {S : am_S} (hs : sk S) {I : am_I} {n : Nat} {B : Nat → Nat} (hT : tM2 n B I) (hB : okB n B) {Sh : Nat → Option Dw} (hS : ShM Sh I) : am_Mt 5 Y_X8_read (0, 0) [.ref 44] S I (RM S I (pT n B Sh)) := by
  have h200 := hB.1
  have LP : ∀ (f : Nat) (K : List (En × Option Dw)) (p : Nat) (I1 : am_I), FM I I1 → p ≤ n → n - p < f → K.length ≤ 8 → stX I1 K → SN n B p I1 → I1 44 21 = nI K.length → I1 44 26 = nI 0 → am_Rn 5 Y_X8_read (0, 0) 19 [some (.ref 44), none] [] S I1 (RM S I (bnd (rA n B Sh f K p) (fun d => if n ≤ tS n B d.2 then .inr d.1 else .inl (1, tS n B d.2)))) := by
    intro f
    induction f with
    | zero => intro K p I1 hF hp hpf; omega
    | succ f ih =>
      intro K p I1 hF hp hpf hK8 hst hN h21 h26
      rw [rA_s]
      rcases hX : pB n B Sh (8 - K.length) p with e | (⟨D, q⟩ | ⟨e, q⟩)
      · refine rn_aload_n dX8_read_19 rfl rfl ?_
        refine rn_getI dX8_read_20 fd_8_182 (sk_l hs 44 (by decide)) (sk_k44 hs) rfl ?_
        refine rn_top (y := nI 0) (h26) ?_
        refine rn_if_eqN (tgt := 33) dX8_read_23 (by decide) (by omega) (fun c_23 => ?_) (fun c_23 => ?_)
        · refine rn_aload_n dX8_read_33 rfl rfl ?_
          refine rn_iconst (v := nI 0) dX8_read_34 (by decide) ?_
          refine rn_putI dX8_read_35 fd_8_182 (sk_l hs 44 (by decide)) (sk_k44 hs) rfl rfl (by decide) (by decide) ?_
          refine rn_I (am_up_same h26) ?_
          refine rn_aload_n dX8_read_38 rfl rfl ?_
          refine rn_callV0 (st := []) dX8_read_39 cf_8_206 (c_X8_begin hs (hF.tm hT) hB (hS.moved (fun g _ h9 => hF.2.2 g h9)) hp hN hK8 h21 h26) (by omega) (sk_l hs 44 (by decide)) (sk_k44 hs) rfl rfl (Nat.le_of_ble_eq_true rfl) (fun r1 S1 I2 hq => ?_)
          obtain ⟨rfl, rfl, hF2, hS2, h18⟩ := hq.l hX
          have hea := pB_err hX
          refine rn_istore_n (ls' := [some (.ref 44), some (.int (nI e.1))]) dX8_read_42 rfl (by decide) rfl rfl ?_
          refine rn_iload_n dX8_read_43 rfl rfl ?_
          refine rn_if_neN (tgt := 67) dX8_read_44 (by decide) (by omega) (fun c_44 => ?_) (fun c_44 => ?_)
          · refine rn_iload_n dX8_read_67 rfl rfl ?_
            refine rn_if_eqN (tgt := 73) dX8_read_68 (by decide) (by omega) (fun c_68 => ?_) (fun c_68 => ?_)
            · omega
            · refine rn_iload_n dX8_read_71 rfl rfl ?_
              refine rn_ireturn dX8_read_72 rfl (vp_nar_int _) ?_
              exact ⟨rfl, hF.trans hF2, Or.inl ⟨e, rfl, rfl, h18⟩⟩
          · omega
        · exact absurd c_23 (by decide)
      · rcases hC : pC K D with e | (D3 | K3)
        · refine rn_aload_n dX8_read_19 rfl rfl ?_
          refine rn_getI dX8_read_20 fd_8_182 (sk_l hs 44 (by decide)) (sk_k44 hs) rfl ?_
          refine rn_top (y := nI 0) (h26) ?_
          refine rn_if_eqN (tgt := 33) dX8_read_23 (by decide) (by omega) (fun c_23 => ?_) (fun c_23 => ?_)
          · refine rn_aload_n dX8_read_33 rfl rfl ?_
            refine rn_iconst (v := nI 0) dX8_read_34 (by decide) ?_
            refine rn_putI dX8_read_35 fd_8_182 (sk_l hs 44 (by decide)) (sk_k44 hs) rfl rfl (by decide) (by decide) ?_
            refine rn_I (am_up_same h26) ?_
            refine rn_aload_n dX8_read_38 rfl rfl ?_
            refine rn_callV0 (st := []) dX8_read_39 cf_8_206 (c_X8_begin hs (hF.tm hT) hB (hS.moved (fun g _ h9 => hF.2.2 g h9)) hp hN hK8 h21 h26) (by omega) (sk_l hs 44 (by decide)) (sk_k44 hs) rfl rfl (Nat.le_of_ble_eq_true rfl) (fun r1 S1 I2 hq => ?_)
            obtain ⟨rfl, rfl, hF2, hS2, hD2, h26b, h21b, h17b⟩ := hq.d hX
            have hpk := (pB_ok n B Sh hp hS.2).1 D q hX
            refine rn_istore_n (ls' := [some (.ref 44), some (.int (nI 0))]) dX8_read_42 rfl (by decide) rfl rfl ?_
            refine rn_iload_n dX8_read_43 rfl rfl ?_
            refine rn_if_neN (tgt := 67) dX8_read_44 (by decide) (by omega) (fun c_44 => ?_) (fun c_44 => ?_)
            · exact absurd c_44 (by decide)
            · refine rn_aload_n dX8_read_47 rfl rfl ?_
              refine rn_getI dX8_read_48 fd_8_182 (sk_l hs 44 (by decide)) (sk_k44 hs) rfl ?_
              refine rn_top (y := nI 1) (h26b) ?_
              refine rn_if_eqN (tgt := 67) dX8_read_51 (by decide) (by omega) (fun c_51 => ?_) (fun c_51 => ?_)
              · exact absurd c_51 (by decide)
              · refine rn_aload_n dX8_read_54 rfl rfl ?_
                refine rn_callV0 (st := []) dX8_read_55 cf_8_209 (c_X8_close hs hK8 (hst.moved hS2) hpk.1 hD2 h26b h21b) (by omega) (sk_l hs 44 (by decide)) (sk_k44 hs) rfl rfl (Nat.le_of_ble_eq_true rfl) (fun r1 S1 I3 hq => ?_)
                obtain ⟨rfl, rfl, hF3, h17c, h18⟩ := hq.l hC
                have hea := pC_err hC
                refine rn_istore_n (ls' := [some (.ref 44), some (.int (nI e.1))]) dX8_read_58 rfl (by decide) rfl rfl ?_
                refine rn_iload_n dX8_read_59 rfl rfl ?_
                refine rn_if_neN (tgt := 67) dX8_read_60 (by decide) (by omega) (fun c_60 => ?_) (fun c_60 => ?_)
                · refine rn_iload_n dX8_read_67 rfl rfl ?_
                  refine rn_if_eqN (tgt := 73) dX8_read_68 (by decide) (by omega) (fun c_68 => ?_) (fun c_68 => ?_)
                  · omega
                  · refine rn_iload_n dX8_read_71 rfl rfl ?_
                    refine rn_ireturn dX8_read_72 rfl (vp_nar_int _) ?_
                    have hra : aft n B Sh f K (D, q) = .inl e := by unfold aft; show bnd (pC K D) _ = _; rw [hC]; rfl
                    refine ⟨rfl, hF.trans (hF2.trans hF3), Or.inl ⟨e, ?_, rfl, h18⟩⟩
                    show bnd (aft n B Sh f K (D, q)) (fun d => if n ≤ tS n B d.2 then .inr d.1 else .inl (1, tS n B d.2)) = _
                    rw [hra]; rfl
                · omega
          · exact absurd c_23 (by decide)
        · refine rn_aload_n dX8_read_19 rfl rfl ?_
          refine rn_getI dX8_read_20 fd_8_182 (sk_l hs 44 (by decide)) (sk_k44 hs) rfl ?_
          refine rn_top (y := nI 0) (h26) ?_
          refine rn_if_eqN (tgt := 33) dX8_read_23 (by decide) (by omega) (fun c_23 => ?_) (fun c_23 => ?_)
          · refine rn_aload_n dX8_read_33 rfl rfl ?_
            refine rn_iconst (v := nI 0) dX8_read_34 (by decide) ?_
            refine rn_putI dX8_read_35 fd_8_182 (sk_l hs 44 (by decide)) (sk_k44 hs) rfl rfl (by decide) (by decide) ?_
            refine rn_I (am_up_same h26) ?_
            refine rn_aload_n dX8_read_38 rfl rfl ?_
            refine rn_callV0 (st := []) dX8_read_39 cf_8_206 (c_X8_begin hs (hF.tm hT) hB (hS.moved (fun g _ h9 => hF.2.2 g h9)) hp hN hK8 h21 h26) (by omega) (sk_l hs 44 (by decide)) (sk_k44 hs) rfl rfl (Nat.le_of_ble_eq_true rfl) (fun r1 S1 I2 hq => ?_)
            obtain ⟨rfl, rfl, hF2, hS2, hD2, h26b, h21b, h17b⟩ := hq.d hX
            have hpk := (pB_ok n B Sh hp hS.2).1 D q hX
            refine rn_istore_n (ls' := [some (.ref 44), some (.int (nI 0))]) dX8_read_42 rfl (by decide) rfl rfl ?_
            refine rn_iload_n dX8_read_43 rfl rfl ?_
            refine rn_if_neN (tgt := 67) dX8_read_44 (by decide) (by omega) (fun c_44 => ?_) (fun c_44 => ?_)
            · exact absurd c_44 (by decide)
            · refine rn_aload_n dX8_read_47 rfl rfl ?_
              refine rn_getI dX8_read_48 fd_8_182 (sk_l hs 44 (by decide)) (sk_k44 hs) rfl ?_
              refine rn_top (y := nI 1) (h26b) ?_
              refine rn_if_eqN (tgt := 67) dX8_read_51 (by decide) (by omega) (fun c_51 => ?_) (fun c_51 => ?_)
              · exact absurd c_51 (by decide)
              · refine rn_aload_n dX8_read_54 rfl rfl ?_
                refine rn_callV0 (st := []) dX8_read_55 cf_8_209 (c_X8_close hs hK8 (hst.moved hS2) hpk.1 hD2 h26b h21b) (by omega) (sk_l hs 44 (by decide)) (sk_k44 hs) rfl rfl (Nat.le_of_ble_eq_true rfl) (fun r1 S1 I3 hq => ?_)
                obtain ⟨rfl, rfl, hF3, h17c, hO3, hD3, h26c, h21c⟩ := hq.d hC
                refine rn_istore_n (ls' := [some (.ref 44), some (.int (nI 0))]) dX8_read_58 rfl (by decide) rfl rfl ?_
                refine rn_iload_n dX8_read_59 rfl rfl ?_
                refine rn_if_neN (tgt := 67) dX8_read_60 (by decide) (by omega) (fun c_60 => ?_) (fun c_60 => ?_)
                · exact absurd c_60 (by decide)
                · refine rn_aload_n dX8_read_63 rfl rfl ?_
                  refine rn_callV0 (st := []) dX8_read_64 cf_8_170 (c_X8_nextToken hs ((hF.trans (hF2.trans hF3)).tm hT) hB hpk.2.2 (h17c.trans h17b)) (by omega) (sk_l hs 44 (by decide)) (sk_k44 hs) rfl rfl (Nat.le_of_ble_eq_true rfl) (fun r1 S1 I4 hq => ?_)
                  obtain ⟨rfl, rfl, hK4, hN4⟩ := hq
                  have h26d := (hK4.2 26 (by decide)).trans h26c
                  have h21d := (hK4.2 21 (by decide)).trans h21c
                  refine rn_iload_n dX8_read_67 rfl rfl ?_
                  refine rn_if_eqN (tgt := 73) dX8_read_68 (by decide) (by omega) (fun c_68 => ?_) (fun c_68 => ?_)
                  · refine rn_goto (tgt := 19) dX8_read_73 (by decide) ?_
                    refine rn_aload_n dX8_read_19 rfl rfl ?_
                    refine rn_getI dX8_read_20 fd_8_182 (sk_l hs 44 (by decide)) (sk_k44 hs) rfl ?_
                    refine rn_top (y := nI 1) (h26d) ?_
                    refine rn_if_eqN (tgt := 33) dX8_read_23 (by decide) (by omega) (fun c_23 => ?_) (fun c_23 => ?_)
                    · exact absurd c_23 (by decide)
                    · refine rn_aload_n dX8_read_26 rfl rfl ?_
                      refine rn_getI dX8_read_27 fd_8_173 (sk_l hs 44 (by decide)) (sk_k44 hs) rfl ?_
                      refine rn_top (y := nI 0) (h21d) ?_
                      refine rn_if_leN (tgt := 76) dX8_read_30 (by decide) (by omega) (fun c_30 => ?_) (fun c_30 => ?_)
                      · have htl := tK_le n B (tS n B q)
                        have ht0 := tK_0' (n := n) (B := B) (s := tS n B q)
                        refine rn_aload_n dX8_read_76 rfl rfl ?_
                        refine rn_getI dX8_read_77 fd_8_157 (sk_l hs 44 (by decide)) (sk_k44 hs) rfl ?_
                        refine rn_top (y := nI (tK n B (tS n B q))) (hN4.2.1) ?_
                        refine rn_if_neN (tgt := 87) dX8_read_80 (by decide) (by omega) (fun c_80 => ?_) (fun c_80 => ?_)
                        · refine rn_iconst (v := nI 1) dX8_read_87 (by decide) ?_
                          refine rn_ireturn dX8_read_88 rfl (vp_nar_int _) ?_
                          have hra : aft n B Sh f K (D, q) = .inr (D3, q) := by unfold aft; show bnd (pC K D) _ = _; rw [hC]; rfl
                          have hnn := fun h9 => c_80 (ht0.mpr h9)
                          refine ⟨rfl, (hF.trans (hF2.trans hF3)).trans hK4.fm, Or.inl ⟨(1, tS n B q), ?_, rfl, hN4.1⟩⟩
                          show bnd (aft n B Sh f K (D, q)) (fun d => if n ≤ tS n B d.2 then .inr d.1 else .inl (1, tS n B d.2)) = _
                          rw [hra]
                          exact if_neg hnn
                        · refine rn_iconst (v := nI 0) dX8_read_83 (by decide) ?_
                          refine rn_goto (tgt := 88) dX8_read_84 (by decide) ?_
                          refine rn_ireturn dX8_read_88 rfl (vp_nar_int _) ?_
                          have hra : aft n B Sh f K (D, q) = .inr (D3, q) := by unfold aft; show bnd (pC K D) _ = _; rw [hC]; rfl
                          have hnn := ht0.mp c_80
                          refine ⟨rfl, (hF.trans (hF2.trans hF3)).trans hK4.fm, Or.inr ⟨D3, ?_, rfl, hO3, hD3.same (gS.of 18 (hK4.1 45 (by decide)) (hK4.1 46 (by decide)) (hK4.1 47 (by decide)))⟩⟩
                          show bnd (aft n B Sh f K (D, q)) (fun d => if n ≤ tS n B d.2 then .inr d.1 else .inl (1, tS n B d.2)) = _
                          rw [hra]
                          exact if_pos hnn
                      · exact absurd c_30 (by decide)
                  · exact absurd c_68 (by decide)
          · exact absurd c_23 (by decide)
        · refine rn_aload_n dX8_read_19 rfl rfl ?_
          refine rn_getI dX8_read_20 fd_8_182 (sk_l hs 44 (by decide)) (sk_k44 hs) rfl ?_
          refine rn_top (y := nI 0) (h26) ?_
          refine rn_if_eqN (tgt := 33) dX8_read_23 (by decide) (by omega) (fun c_23 => ?_) (fun c_23 => ?_)
          · refine rn_aload_n dX8_read_33 rfl rfl ?_
            refine rn_iconst (v := nI 0) dX8_read_34 (by decide) ?_
            refine rn_putI dX8_read_35 fd_8_182 (sk_l hs 44 (by decide)) (sk_k44 hs) rfl rfl (by decide) (by decide) ?_
            refine rn_I (am_up_same h26) ?_
            refine rn_aload_n dX8_read_38 rfl rfl ?_
            refine rn_callV0 (st := []) dX8_read_39 cf_8_206 (c_X8_begin hs (hF.tm hT) hB (hS.moved (fun g _ h9 => hF.2.2 g h9)) hp hN hK8 h21 h26) (by omega) (sk_l hs 44 (by decide)) (sk_k44 hs) rfl rfl (Nat.le_of_ble_eq_true rfl) (fun r1 S1 I2 hq => ?_)
            obtain ⟨rfl, rfl, hF2, hS2, hD2, h26b, h21b, h17b⟩ := hq.d hX
            have hpk := (pB_ok n B Sh hp hS.2).1 D q hX
            refine rn_istore_n (ls' := [some (.ref 44), some (.int (nI 0))]) dX8_read_42 rfl (by decide) rfl rfl ?_
            refine rn_iload_n dX8_read_43 rfl rfl ?_
            refine rn_if_neN (tgt := 67) dX8_read_44 (by decide) (by omega) (fun c_44 => ?_) (fun c_44 => ?_)
            · exact absurd c_44 (by decide)
            · refine rn_aload_n dX8_read_47 rfl rfl ?_
              refine rn_getI dX8_read_48 fd_8_182 (sk_l hs 44 (by decide)) (sk_k44 hs) rfl ?_
              refine rn_top (y := nI 1) (h26b) ?_
              refine rn_if_eqN (tgt := 67) dX8_read_51 (by decide) (by omega) (fun c_51 => ?_) (fun c_51 => ?_)
              · exact absurd c_51 (by decide)
              · refine rn_aload_n dX8_read_54 rfl rfl ?_
                refine rn_callV0 (st := []) dX8_read_55 cf_8_209 (c_X8_close hs hK8 (hst.moved hS2) hpk.1 hD2 h26b h21b) (by omega) (sk_l hs 44 (by decide)) (sk_k44 hs) rfl rfl (Nat.le_of_ble_eq_true rfl) (fun r1 S1 I3 hq => ?_)
                obtain ⟨rfl, rfl, hF3, h17c, hst3, hK3, h26c, h21c⟩ := hq.k hC
                refine rn_istore_n (ls' := [some (.ref 44), some (.int (nI 0))]) dX8_read_58 rfl (by decide) rfl rfl ?_
                refine rn_iload_n dX8_read_59 rfl rfl ?_
                refine rn_if_neN (tgt := 67) dX8_read_60 (by decide) (by omega) (fun c_60 => ?_) (fun c_60 => ?_)
                · exact absurd c_60 (by decide)
                · refine rn_aload_n dX8_read_63 rfl rfl ?_
                  refine rn_callV0 (st := []) dX8_read_64 cf_8_170 (c_X8_nextToken hs ((hF.trans (hF2.trans hF3)).tm hT) hB hpk.2.2 (h17c.trans h17b)) (by omega) (sk_l hs 44 (by decide)) (sk_k44 hs) rfl rfl (Nat.le_of_ble_eq_true rfl) (fun r1 S1 I4 hq => ?_)
                  obtain ⟨rfl, rfl, hK4, hN4⟩ := hq
                  have h26d := (hK4.2 26 (by decide)).trans h26c
                  have h21d := (hK4.2 21 (by decide)).trans h21c
                  refine rn_iload_n dX8_read_67 rfl rfl ?_
                  refine rn_if_eqN (tgt := 73) dX8_read_68 (by decide) (by omega) (fun c_68 => ?_) (fun c_68 => ?_)
                  · refine rn_goto (tgt := 19) dX8_read_73 (by decide) ?_
                    refine rn_ls (ls' := [some (.ref 44), none]) rfl (fun i x h => by rcases i with _ | _ | i <;> first | exact h | (simp at h)) ?_
                    have hra : aft n B Sh f K (D, q) = rA n B Sh f K3 q := by unfold aft; show bnd (pC K D) _ = _; rw [hC]; rfl
                    show am_Rn 5 Y_X8_read (0, 0) 19 _ [] S1 I4 (RM S1 I (bnd (aft n B Sh f K (D, q)) (fun d => if n ≤ tS n B d.2 then .inr d.1 else .inl (1, tS n B d.2))))
                    rw [hra]
                    exact ih K3 q I4 ((hF.trans (hF2.trans hF3)).trans hK4.fm) hpk.2.2 (by omega) hK3 (hst3.moved hK4.st) hN4 h21d h26d
                  · exact absurd c_68 (by decide)
          · exact absurd c_23 (by decide)
      · refine rn_aload_n dX8_read_19 rfl rfl ?_
        refine rn_getI dX8_read_20 fd_8_182 (sk_l hs 44 (by decide)) (sk_k44 hs) rfl ?_
        refine rn_top (y := nI 0) (h26) ?_
        refine rn_if_eqN (tgt := 33) dX8_read_23 (by decide) (by omega) (fun c_23 => ?_) (fun c_23 => ?_)
        · refine rn_aload_n dX8_read_33 rfl rfl ?_
          refine rn_iconst (v := nI 0) dX8_read_34 (by decide) ?_
          refine rn_putI dX8_read_35 fd_8_182 (sk_l hs 44 (by decide)) (sk_k44 hs) rfl rfl (by decide) (by decide) ?_
          refine rn_I (am_up_same h26) ?_
          refine rn_aload_n dX8_read_38 rfl rfl ?_
          refine rn_callV0 (st := []) dX8_read_39 cf_8_206 (c_X8_begin hs (hF.tm hT) hB (hS.moved (fun g _ h9 => hF.2.2 g h9)) hp hN hK8 h21 h26) (by omega) (sk_l hs 44 (by decide)) (sk_k44 hs) rfl rfl (Nat.le_of_ble_eq_true rfl) (fun r1 S1 I2 hq => ?_)
          obtain ⟨rfl, rfl, hF2, hS2, hE2, h26b, h21b, hN2⟩ := hq.e hX
          have hpk := (pB_ok n B Sh hp hS.2).2 e q hX
          refine rn_istore_n (ls' := [some (.ref 44), some (.int (nI 0))]) dX8_read_42 rfl (by decide) rfl rfl ?_
          refine rn_iload_n dX8_read_43 rfl rfl ?_
          refine rn_if_neN (tgt := 67) dX8_read_44 (by decide) (by omega) (fun c_44 => ?_) (fun c_44 => ?_)
          · exact absurd c_44 (by decide)
          · refine rn_aload_n dX8_read_47 rfl rfl ?_
            refine rn_getI dX8_read_48 fd_8_182 (sk_l hs 44 (by decide)) (sk_k44 hs) rfl ?_
            refine rn_top (y := nI 0) (h26b) ?_
            refine rn_if_eqN (tgt := 67) dX8_read_51 (by decide) (by omega) (fun c_51 => ?_) (fun c_51 => ?_)
            · refine rn_iload_n dX8_read_67 rfl rfl ?_
              refine rn_if_eqN (tgt := 73) dX8_read_68 (by decide) (by omega) (fun c_68 => ?_) (fun c_68 => ?_)
              · refine rn_goto (tgt := 19) dX8_read_73 (by decide) ?_
                refine rn_ls (ls' := [some (.ref 44), none]) rfl (fun i x h => by rcases i with _ | _ | i <;> first | exact h | (simp at h)) ?_
                exact ih ((e, none) :: K) q I2 (hF.trans hF2) hpk.2.2.1 (by omega) (by show K.length + 1 ≤ 8; omega) ⟨hE2, hst.moved hS2⟩ hN2 h21b h26b
              · exact absurd c_68 (by decide)
            · exact absurd c_51 (by decide)
        · exact absurd c_23 (by decide)
  have hF0 : FM I (am_up (am_up (am_up I 44 17 (nI 0)) 44 21 (nI 0)) 44 26 (nI 0)) := ((FM.rf.up (Or.inl (by decide)) _).up (Or.inl (by decide)) _).up (Or.inl (by decide)) _
  rw [← rA_pT n B Sh hS.2 (f := n + 1) (by omega)]
  refine am_mt ⟨by decide +kernel, rfl⟩ (Nat.le_of_ble_eq_true rfl) rfl ?_
  refine rn_aload_n dX8_read_0 rfl rfl ?_
  refine rn_iconst (v := nI 0) dX8_read_1 (by decide) ?_
  refine rn_putI dX8_read_2 fd_8_148 (sk_l hs 44 (by decide)) (sk_k44 hs) rfl rfl (vp_nar_int _) rfl ?_
  refine rn_aload_n dX8_read_5 rfl rfl ?_
  refine rn_iconst (v := nI 0) dX8_read_6 (by decide) ?_
  refine rn_putI dX8_read_7 fd_8_173 (sk_l hs 44 (by decide)) (sk_k44 hs) rfl rfl (vp_nar_int _) rfl ?_
  refine rn_aload_n dX8_read_10 rfl rfl ?_
  refine rn_iconst (v := nI 0) dX8_read_11 (by decide) ?_
  refine rn_putI dX8_read_12 fd_8_182 (sk_l hs 44 (by decide)) (sk_k44 hs) rfl rfl (by decide) (by decide) ?_
  refine rn_aload_n dX8_read_15 rfl rfl ?_
  refine rn_callV0 (st := []) dX8_read_16 cf_8_170 (c_X8_nextToken hs (hF0.tm hT) hB (p := 0) (Nat.zero_le _) (by rw [am_up_k _ _ (by decide), am_up_k _ _ (by decide), am_up_at])) (by omega) (sk_l hs 44 (by decide)) (sk_k44 hs) rfl rfl (Nat.le_of_ble_eq_true rfl) (fun r1 S1 I1 hq => ?_)
  obtain ⟨rfl, rfl, hK1, hN1⟩ := hq
  exact LP (n + 1) [] 0 I1 (hF0.trans hK1.fm) (Nat.zero_le _) (by omega) (by decide) True.intro hN1 (by rw [hK1.2 21 (by decide), am_up_k _ _ (by decide), am_up_at]; rfl) (by rw [hK1.2 26 (by decide), am_up_at])
/-- the reference after draw or back -/
def MX (X : (Nat × Nat) ⊕ Dw) (I I' : am_I) : Prop := (∀ b, b < 44 ∨ b = 55 ∨ 61 < b → I' b = I b) ∧ I' 44 14 = nI 0 ∧ I' 44 15 = fkX X ∧ I' 44 16 = fpX X ∧ (∀ g, 1 ≤ g → g < 9 → gS I I' g) ∧ ((∃ e, X = .inl e ∧ gS I I' 0 ∧ I' 48 = I 48) ∨ ∃ D, X = .inr D ∧ okD D ∧ grD I' 0 D ∧ ∀ k, k < 289 → I' 48 k = nI 0)
def tdI (I : am_I) (x y : Int32) : am_I := am_up (am_up (am_up I 44 15 x) 44 16 y) 44 14 (nI 0)
theorem tdI_o {I : am_I} {x y : Int32} {b : Nat} (hb : b ≠ 44) : tdI I x y b = I b := by unfold tdI; rw [am_up_a _ _ hb, am_up_a _ _ hb, am_up_a _ _ hb]
theorem tdI_k {I : am_I} {x y : Int32} {k : Nat} (hk : k < 14 ∨ 16 < k) : tdI I x y 44 k = I 44 k := by unfold tdI; rw [am_up_k _ _ (by omega), am_up_k _ _ (by omega), am_up_k _ _ (by omega)]
theorem tdI_v (I : am_I) (x y : Int32) : tdI I x y 44 14 = nI 0 ∧ tdI I x y 44 15 = x ∧ tdI I x y 44 16 = y := ⟨by unfold tdI; rw [am_up_at], by unfold tdI; rw [am_up_k _ _ (by decide), am_up_k _ _ (by decide), am_up_at], by unfold tdI; rw [am_up_k _ _ (by decide), am_up_at]⟩
set_option maxHeartbeats 1000000 in
set_option maxRecDepth 100000 in
theorem c_X8_isTold_e {S : am_S} (hs : sk S) {I : am_I} {e : Nat} (h1 : 1 ≤ e) (h4 : e ≤ 4) : am_Mt 1 Y_X8_isTold (0, 0) [.ref 44, .int (nI e)] S I (am_q (some (.int (nI 0))) S (tdI I (nI e) (I 44 18))) := by
  refine am_mt ⟨by decide +kernel, rfl⟩ (Nat.le_of_ble_eq_true rfl) rfl ?_
  refine rn_aload_n dX8_isTold_0 rfl rfl ?_
  refine rn_iload_n dX8_isTold_1 rfl rfl ?_
  refine rn_putI dX8_isTold_2 fd_8_45 (sk_l hs 44 (by decide)) (sk_k44 hs) rfl rfl (vp_nar_int _) rfl ?_
  refine rn_aload_n dX8_isTold_5 rfl rfl ?_
  refine rn_iload_n dX8_isTold_6 rfl rfl ?_
  refine rn_if_neN (tgt := 14) dX8_isTold_7 (by decide) (by omega) (fun c_7 => ?_) (fun c_7 => ?_)
  · refine rn_aload_n dX8_isTold_14 rfl rfl ?_
    refine rn_getI dX8_isTold_15 fd_8_154 (sk_l hs 44 (by decide)) (sk_k44 hs) rfl ?_
    refine rn_putI dX8_isTold_18 fd_8_49 (sk_l hs 44 (by decide)) (sk_k44 hs) rfl rfl (vp_nar_int _) rfl ?_
    refine rn_aload_n dX8_isTold_21 rfl rfl ?_
    refine rn_iconst (v := nI 0) dX8_isTold_22 (by decide) ?_
    refine rn_putI dX8_isTold_23 fd_8_121 (sk_l hs 44 (by decide)) (sk_k44 hs) rfl rfl (vp_nar_int _) rfl ?_
    refine rn_iload_n dX8_isTold_26 rfl rfl ?_
    refine rn_if_eqN (tgt := 32) dX8_isTold_27 (by decide) (by omega) (fun c_27 => ?_) (fun c_27 => ?_)
    · omega
    · refine rn_iconst (v := nI 0) dX8_isTold_30 (by decide) ?_
      refine rn_ireturn dX8_isTold_31 rfl (by decide) ?_
      exact ⟨rfl, rfl, by rw [show am_up I 44 15 (nI e) 44 18 = I 44 18 from am_up_k _ _ (by decide)]; rfl⟩
  · omega
set_option maxHeartbeats 1000000 in
set_option maxRecDepth 100000 in
theorem c_X8_isTold_0 {S : am_S} (hs : sk S) {I : am_I} {D : Dw} (hO : okD D) (hD : grD I 18 D) : am_Mt 1 Y_X8_isTold (0, 0) [.ref 44, .int (nI 0)] S I (fun r S' I' => r = some (.int (nI 1)) ∧ S' = S ∧ I' 44 14 = nI 0 ∧ I' 44 15 = nI 0 ∧ I' 44 16 = -1 ∧ grD I' 0 D ∧ (∀ k, k < 289 → I' 48 k = nI 0) ∧ (∀ b, b < 44 ∨ 48 < b → I' b = I b) ∧ (∀ g, 1 ≤ g → gS I I' g) ∧ ∀ k, k < 14 ∨ 16 < k → I' 44 k = I 44 k) := by
  have LP : ∀ I1 : am_I, grD I1 0 D → gfr (fun x => x = 0) (tdI I (nI 0) (-1)) I1 → ∀ k, k ≤ 289 → ∀ I3 : am_I, (∀ x, x < k → I3 48 x = nI 0) → (∀ b, b ≠ 48 → I3 b = I1 b) → am_Rn 1 Y_X8_isTold (0, 0) 41 [some (.ref 44), some (.int (nI 0)), some (.int (nI k))] [] S I3 (fun r S' I' => r = some (.int (nI 1)) ∧ S' = S ∧ I' 44 14 = nI 0 ∧ I' 44 15 = nI 0 ∧ I' 44 16 = -1 ∧ grD I' 0 D ∧ (∀ k, k < 289 → I' 48 k = nI 0) ∧ (∀ b, b < 44 ∨ 48 < b → I' b = I b) ∧ (∀ g, 1 ≤ g → gS I I' g) ∧ ∀ k, k < 14 ∨ 16 < k → I' 44 k = I 44 k) := by
    intro I1 hD1 hF1
    refine am_loop 289 (fun k hk ih => ?_)
    intro I3 hz hr
    refine rn_iload_n dX8_isTold_41 rfl rfl ?_
    refine rn_sipush (v := nI 289) dX8_isTold_42 (by decide) ?_
    refine rn_icmp_geN (tgt := 61) dX8_isTold_45 (by decide) (by omega) (by omega) (fun c_45 => ?_) (fun c_45 => ?_)
    · refine rn_iconst (v := nI 1) dX8_isTold_61 (by decide) ?_
      refine rn_ireturn dX8_isTold_62 rfl (by decide) ?_
      obtain rfl : k = 289 := by omega
      refine ⟨rfl, rfl, ?_, ?_, ?_, ?_, hz, fun b hb => ?_, fun g hg => ?_, fun k hk => by rw [hr 44 (by decide), hF1.1 44 (by decide) (by decide) (by decide)]; exact tdI_k hk⟩
      · rw [hr 44 (by decide), hF1.1 44 (by decide) (by decide) (by decide)]; exact (tdI_v I (nI 0) (-1)).1
      · rw [hr 44 (by decide), hF1.1 44 (by decide) (by decide) (by decide)]; exact (tdI_v I (nI 0) (-1)).2.1
      · rw [hr 44 (by decide), hF1.1 44 (by decide) (by decide) (by decide)]; exact (tdI_v I (nI 0) (-1)).2.2
      · exact hD1.same (gS.of 0 (hr 45 (by decide)) (hr 46 (by decide)) (hr 47 (by decide)))
      · rw [hr b (by omega), hF1.1 b (by omega) (by omega) (by omega), tdI_o (by omega)]
      · exact ((gS.of g (tdI_o (by decide)) (tdI_o (by decide)) (tdI_o (by decide)) : gS I (tdI I (nI 0) (-1)) g).trans (hF1.2 g (by omega))).trans (gS.of g (hr 45 (by decide)) (hr 46 (by decide)) (hr 47 (by decide)))
    · refine rn_aload_n dX8_isTold_48 rfl rfl ?_
      refine rn_getR (r := 48) dX8_isTold_49 fd_8_20 (sk_l hs 44 (by decide)) (sk_k44 hs) rfl (sk_r44_3 hs) ?_
      refine rn_iload_n dX8_isTold_52 rfl rfl ?_
      refine rn_iconst (v := nI 0) dX8_isTold_53 (by decide) ?_
      refine rn_zastoreN dX8_isTold_54 (sk_l hs 48 (by decide)) (sk_k48 hs) (by omega) (by omega) (by decide) ?_
      refine rn_iinc (v := nI (k + 1)) (ls' := [some (.ref 44), some (.int (nI 0)), some (.int (nI (k + 1)))]) dX8_isTold_55 rfl (nI_add _ 1) (by decide) rfl rfl ?_
      refine rn_goto (tgt := 41) dX8_isTold_58 (by decide) ?_
      exact ih c_45 _ (fun x hx => by
        by_cases h9 : x = k
        · rw [h9, am_up_at]
        · rw [am_up_k _ _ h9]; exact hz x (by omega)) (fun b hb => by rw [am_up_a _ _ hb]; exact hr b hb)
  refine am_mt ⟨by decide +kernel, rfl⟩ (Nat.le_of_ble_eq_true rfl) rfl ?_
  refine rn_aload_n dX8_isTold_0 rfl rfl ?_
  refine rn_iload_n dX8_isTold_1 rfl rfl ?_
  refine rn_putI dX8_isTold_2 fd_8_45 (sk_l hs 44 (by decide)) (sk_k44 hs) rfl rfl (vp_nar_int _) rfl ?_
  refine rn_aload_n dX8_isTold_5 rfl rfl ?_
  refine rn_iload_n dX8_isTold_6 rfl rfl ?_
  refine rn_if_neN (tgt := 14) dX8_isTold_7 (by decide) (by omega) (fun c_7 => ?_) (fun c_7 => ?_)
  · exact absurd c_7 (by decide)
  · refine rn_iconst (v := (-1)) dX8_isTold_10 (by decide) ?_
    refine rn_goto (tgt := 18) dX8_isTold_11 (by decide) ?_
    refine rn_putI dX8_isTold_18 fd_8_49 (sk_l hs 44 (by decide)) (sk_k44 hs) rfl rfl (vp_nar_int _) rfl ?_
    refine rn_aload_n dX8_isTold_21 rfl rfl ?_
    refine rn_iconst (v := nI 0) dX8_isTold_22 (by decide) ?_
    refine rn_putI dX8_isTold_23 fd_8_121 (sk_l hs 44 (by decide)) (sk_k44 hs) rfl rfl (vp_nar_int _) rfl ?_
    refine rn_iload_n dX8_isTold_26 rfl rfl ?_
    refine rn_if_eqN (tgt := 32) dX8_isTold_27 (by decide) (by omega) (fun c_27 => ?_) (fun c_27 => ?_)
    · refine rn_aload_n dX8_isTold_32 rfl rfl ?_
      refine rn_bipush (v := nI 18) dX8_isTold_33 (by decide) ?_
      refine rn_iconst (v := nI 0) dX8_isTold_35 (by decide) ?_
      refine rn_callV0 (st := []) dX8_isTold_36 cf_8_128 (m_copyD hs (f := 18) (g := 0) (by decide) (by decide) (by decide) hO (hD.same (gS.of 18 (tdI_o (by decide)) (tdI_o (by decide)) (tdI_o (by decide))) : grD (tdI I (nI 0) (-1)) 18 D)) (by omega) (sk_l hs 44 (by decide)) (sk_k44 hs) rfl rfl (Nat.le_of_ble_eq_true rfl) (fun r1 S1 I1 hq => ?_)
      obtain ⟨rfl, rfl, hD1, hF1⟩ := hq
      refine rn_iconst (v := nI 0) dX8_isTold_39 (by decide) ?_
      refine rn_istore_n (ls' := [some (.ref 44), some (.int (nI 0)), some (.int (nI 0))]) dX8_isTold_40 rfl (by decide) rfl rfl ?_
      exact LP I1 hD1 hF1 0 (Nat.zero_le _) I1 (fun x hx => absurd hx (Nat.not_lt_zero _)) (fun _ _ => rfl)
    · exact absurd c_27 (by decide)
set_option maxHeartbeats 1000000 in
set_option maxRecDepth 100000 in
theorem c_X8_draw {S : am_S} (hs : sk S) {I : am_I} {n : Nat} {B : Nat → Nat} (hT : tM2 n B I) (hB : okB n B) {Sh : Nat → Option Dw} (hS : ShM Sh I) : am_Mt 6 Y_X8_draw (0, 0) [.ref 44] S I (fun r S' I' => r = some (.int (vDraw (pT n B Sh))) ∧ S' = S ∧ MX (pT n B Sh) I I') := by
  rcases hX : pT n B Sh with e | D
  · refine am_mt ⟨by decide +kernel, rfl⟩ (Nat.le_of_ble_eq_true rfl) rfl ?_
    refine rn_aload_n dX8_draw_0 rfl rfl ?_
    refine rn_aload_n dX8_draw_1 rfl rfl ?_
    refine rn_callV0 (st := [.ref 44]) dX8_draw_2 cf_8_212 (c_X8_read hs hT hB hS) (by omega) (sk_l hs 44 (by decide)) (sk_k44 hs) rfl rfl (Nat.le_of_ble_eq_true rfl) (fun r1 S1 I1 hq => ?_)
    obtain ⟨rfl, rfl, hF1, h18⟩ := hq.l hX
    have hea := pT_err hX
    refine rn_callVq (st := []) dX8_draw_5 cf_8_215 (c_X8_isTold_e hs hea.1 hea.2) (by omega) (sk_l hs 44 (by decide)) (sk_k44 hs) rfl rfl (Nat.le_of_ble_eq_true rfl) ?_
    refine rn_if_eqN (tgt := 27) dX8_draw_8 (by decide) (by omega) (fun c_8 => ?_) (fun c_8 => ?_)
    · refine rn_iconst (v := (-1)) dX8_draw_27 (by decide) ?_
      refine rn_ireturn dX8_draw_28 rfl (vp_nar_int _) ?_
      have t3 := tdI_v I1 (nI e.1) (I1 44 18)
      exact ⟨rfl, rfl, fun b hb => by rw [tdI_o (by omega)]; exact hF1.1 b (by omega), t3.1, t3.2.1, t3.2.2.trans h18, fun g _ h9 => (hF1.2.2 g h9).trans (gS.of g (tdI_o (by decide)) (tdI_o (by decide)) (tdI_o (by decide))), Or.inl ⟨e, rfl, (hF1.2.2 0 (by decide)).trans (gS.of 0 (tdI_o (by decide)) (tdI_o (by decide)) (tdI_o (by decide))), by rw [tdI_o (by decide)]; exact hF1.1 48 (by decide)⟩⟩
    · exact absurd c_8 (by decide)
  · refine am_mt ⟨by decide +kernel, rfl⟩ (Nat.le_of_ble_eq_true rfl) rfl ?_
    refine rn_aload_n dX8_draw_0 rfl rfl ?_
    refine rn_aload_n dX8_draw_1 rfl rfl ?_
    refine rn_callV0 (st := [.ref 44]) dX8_draw_2 cf_8_212 (c_X8_read hs hT hB hS) (by omega) (sk_l hs 44 (by decide)) (sk_k44 hs) rfl rfl (Nat.le_of_ble_eq_true rfl) (fun r1 S1 I1 hq => ?_)
    obtain ⟨rfl, rfl, hF1, hO, hD1⟩ := hq.r hX
    refine rn_callV0 (st := []) dX8_draw_5 cf_8_215 (c_X8_isTold_0 hs hO hD1) (by omega) (sk_l hs 44 (by decide)) (sk_k44 hs) rfl rfl (Nat.le_of_ble_eq_true rfl) (fun r1 S1 I2 hq => ?_)
    obtain ⟨rfl, rfl, g14, g15, g16, gD, gz, gb, gg, gk⟩ := hq
    refine rn_if_eqN (tgt := 27) dX8_draw_8 (by decide) (by omega) (fun c_8 => ?_) (fun c_8 => ?_)
    · exact absurd c_8 (by decide)
    · refine rn_aload_n dX8_draw_11 rfl rfl ?_
      refine rn_getR (r := 45) dX8_draw_12 fd_8_7 (sk_l hs 44 (by decide)) (sk_k44 hs) rfl (sk_r44_0 hs) ?_
      refine rn_iconst (v := nI 0) dX8_draw_15 (by decide) ?_
      refine rn_ialoadN dX8_draw_16 (sk_l hs 45 (by decide)) (sk_k45 hs) (by omega) (by omega) ?_
      refine rn_top (y := nI D.1) (gD.1) ?_
      refine rn_aload_n dX8_draw_17 rfl rfl ?_
      refine rn_getR (r := 46) dX8_draw_18 fd_8_13 (sk_l hs 44 (by decide)) (sk_k44 hs) rfl (sk_r44_1 hs) ?_
      refine rn_iconst (v := nI 0) dX8_draw_21 (by decide) ?_
      refine rn_ialoadN dX8_draw_22 (sk_l hs 46 (by decide)) (sk_k46 hs) (by omega) (by omega) ?_
      refine rn_top (y := nI D.2.1) (gD.2.1) ?_
      refine rn_imul dX8_draw_23 ?_
      refine rn_top (pk_mul _ _) ?_
      refine rn_goto (tgt := 28) dX8_draw_24 (by decide) ?_
      refine rn_ireturn dX8_draw_28 rfl (vp_nar_int _) ?_
      exact ⟨rfl, rfl, fun b hb => by rw [gb b (by omega)]; exact hF1.1 b (by omega), g14, g15, g16, fun g h8 h9 => (hF1.2.2 g h9).trans (gg g h8), Or.inr ⟨D, rfl, hO, gD, gz⟩⟩
