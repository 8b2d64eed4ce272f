theorem lk2_out {t : Int32} {o0 o1 d : Int} (h0 : ¬ t = nI 0) (h1 : ¬ t = nI 1) : Op.lookupswitch.offset [(0, o0), (1, o1)] d t.toInt = d := by
  rw [z_eq, z_nI (by decide)] at h0 h1
  show (if (0 : Int) = t.toInt then o0 else if (1 : Int) = t.toInt then o1 else d) = d
  rw [if_neg (by omega), if_neg (by omega)]
theorem snoc_lt {l : List (Nat × Nat)} {p : Nat × Nat} {k : Nat} (h : k < l.length) : (l ++ [p]).getD k (0, 0) = l.getD k (0, 0) := by simp [List.getD, List.getElem?_append_left h]
theorem snoc_at {l : List (Nat × Nat)} {p : Nat × Nat} : (l ++ [p]).getD l.length (0, 0) = p := by simp [List.getD]
theorem getD_mem {l : List (Nat × Nat)} {k : Nat} (h : k < l.length) : l.getD k (0, 0) ∈ l := by
  have e : l.getD k (0, 0) = l[k] := by simp [List.getD, h]
  rw [e]
  exact List.getElem_mem h
theorem take_s {l : List (Nat × Nat)} {k : Nat} (h : k < l.length) : l.take (k + 1) = l.take k ++ [l.getD k (0, 0)] := by
  have e : l.getD k (0, 0) = l[k] := by simp [List.getD, h]
  rw [e, List.take_add_one]
  simp [h]
/-- the joiner while it chooses -/
def CI (I0 : am_I) (σ : (Nat → Nat → Prop) × List (Nat × Nat)) (I : am_I) : Prop := (∀ b, b ≠ 12 → b ≠ 13 → b ≠ 14 → b ≠ 15 → I b = I0 b) ∧ (∀ x y, x < 256 → y < 256 → (σ.1 x y ↔ I 15 x = I 15 y)) ∧ I 12 0 = nI σ.2.length ∧ ∀ k, k < σ.2.length → I 13 k = nI (σ.2.getD k (0, 0)).1 ∧ I 14 k = nI (σ.2.getD k (0, 0)).2
theorem CI.step {w h i j : Nat} {M P : Nat → Nat → Nat} {I0 I I' : am_I} {σ : (Nat → Nat → Prop) × List (Nat × Nat)} (hC : CI I0 σ I) (hA : lnum w h M (ulS w i j) < 256) (hB : lnum w h M (st1 w M i j) < 256) (hP : P i j = 0) (hq : (I 15 (lnum w h M (ulS w i j)) = I 15 (lnum w h M (st1 w M i j)) ∧ I' = I) ∨ (¬ I 15 (lnum w h M (ulS w i j)) = I 15 (lnum w h M (st1 w M i j)) ∧ I' = tpI w h M I σ.2.length i j)) : CI I0 (jStep w h M P σ (i, j)) I' := by
  rcases hq with ⟨q, rfl⟩ | ⟨q, rfl⟩
  · rw [jStep_f (Or.inr ((hC.2.1 _ _ hA hB).mpr q))]
    exact hC
  · rw [jStep_t hP (fun e => q ((hC.2.1 _ _ hA hB).mp e))]
    refine ⟨fun b b2 b3 b4 b5 => ?_, fun x y hx hy => ?_, ?_, fun k hk => ?_⟩
    · unfold tpI
      rw [am_up_a _ _ b2, am_up_a _ _ b4, am_up_a _ _ b3, unI_o _ _ _ b5]
      exact hC.1 b b2 b3 b4 b5
    · have e : ∀ x, x < 256 → tpI w h M I σ.2.length i j 15 x = if I 15 x = I 15 (lnum w h M (st1 w M i j)) then I 15 (lnum w h M (ulS w i j)) else I 15 x := by
        intro x hx
        unfold tpI
        rw [am_up_a _ _ (by decide), am_up_a _ _ (by decide), am_up_a _ _ (by decide), unI_at _ _ _ hx]
      rw [e x hx, e y hy]
      exact gr_mg hC.2.1 hA hB x y hx hy
    · unfold tpI
      rw [am_up_at]
      simp
    · simp only [List.length_append, List.length_singleton] at hk
      by_cases hkn : k = σ.2.length
      · subst hkn
        rw [snoc_at]
        unfold tpI
        exact ⟨by rw [am_up_a _ _ (by decide), am_up_a _ _ (by decide), am_up_at], by rw [am_up_a _ _ (by decide), am_up_at]⟩
      · rw [snoc_lt (by omega)]
        have h9 := hC.2.2.2 k (by omega)
        unfold tpI
        exact ⟨by rw [am_up_a _ _ (by decide), am_up_a _ _ (by decide), am_up_k _ _ hkn, unI_o _ _ _ (by decide)]; exact h9.1, by rw [am_up_a _ _ (by decide), am_up_k _ _ hkn, am_up_a _ _ (by decide), unI_o _ _ _ (by decide)]; exact h9.2⟩
theorem CI.dr {I0 I : am_I} {σ : (Nat → Nat → Prop) × List (Nat × Nat)} {a q w h : Nat} {M : Nat → Nat → Nat} (hC : CI I0 σ I) (ha : a ≠ 12 ∧ a ≠ 13 ∧ a ≠ 14 ∧ a ≠ 15) (hq : q ≠ 12 ∧ q ≠ 13 ∧ q ≠ 14 ∧ q ≠ 15) (hd : isDr I0 a q w h M) : isDr I a q w h M := hd.kept (hC.1 a ha.1 ha.2.1 ha.2.2.1 ha.2.2.2) (hC.1 q hq.1 hq.2.1 hq.2.2.1 hq.2.2.2)
theorem CI.lx {I0 I : am_I} {σ : (Nat → Nat → Prop) × List (Nat × Nat)} {w h : Nat} {M : Nat → Nat → Nat} (hC : CI I0 σ I) (hd : LX w h M I0 8 9 10 11) : LX w h M I 8 9 10 11 := hd.moved (hC.1 8 (by decide) (by decide) (by decide) (by decide)) (hC.1 9 (by decide) (by decide) (by decide) (by decide)) (hC.1 10 (by decide) (by decide) (by decide) (by decide)) (hC.1 11 (by decide) (by decide) (by decide) (by decide))
set_option maxHeartbeats 1000000 in
set_option maxRecDepth 100000 in
theorem c_X1_choose {S : am_S} (hs : sk S) {I0 : am_I} {w h : Nat} {M P : Nat → Nat → Nat} (w1 : 1 ≤ w) (w8 : w ≤ 8) (h1 : 1 ≤ h) (h8 : h ≤ 8) (hok : okM w h M) (hokP : okM w h P) (hX : isDr I0 1 2 w h M) (hPX : isDr I0 1 5 w h P) (hL : LX w h M I0 8 9 10 11) : am_Mt 3 Y_X1_choose (0, 0) [.ref 12, .ref 1, .ref 5, .ref 7] S I0 (fun r S' I' => r = none ∧ S' = S ∧ CI I0 (jEnd w h M P) I') := by
  have h256 := sq_bound w8 h8
  have hcn := lcnt_le (h := h) (M := M) w1
  have hTe : jEnd w h M P = List.foldl (jStep w h M P) ((fun x y => x = y), []) (rowsP w h 1) := rfl
  have CI0 : CI I0 ((fun x y => x = y), []) (va_up (am_up I0 12 0 (nI 0)) 15 (idF (am_up I0 12 0 (nI 0) 15) 256)) := by
    refine ⟨fun b b2 b3 b4 b5 => ?_, fun x y hx hy => ?_, ?_, fun k hk => absurd hk (by simp)⟩
    · simp [va_up, am_up, b2, b5]
    · have e1 : va_up (am_up I0 12 0 (nI 0)) 15 (idF (am_up I0 12 0 (nI 0) 15) 256) 15 x = nI x := by simp [va_up, idF, hx]
      have e2 : va_up (am_up I0 12 0 (nI 0)) 15 (idF (am_up I0 12 0 (nI 0) 15) 256) 15 y = nI y := by simp [va_up, idF, hy]
      rw [e1, e2, nI_eq (by omega) (by omega)]
    · simp [va_up, am_up]
  generalize jEnd w h M P = T at hTe ⊢
  have LJ : ∀ m j, 2 * h - j ≤ m → 1 ≤ j → j ≤ 2 * h → ∀ σ I, CI I0 σ I → σ.2.length + (rowsP w h j).length ≤ 120 → T = List.foldl (jStep w h M P) σ (rowsP w h j) → am_Rn 3 Y_X1_choose (0, 0) 34 [some (.ref 12), some (.ref 1), some (.ref 5), some (.ref 7), some (.int (nI j)), none] [] S I (fun r S' I' => r = none ∧ S' = S ∧ CI I0 T I') := by
    intro m
    induction m with
    | zero =>
      intro j hm hj1 hj2 σ I hC hlen hT
      have hX1 := hC.dr (by decide) (by decide) hX
      refine rn_iload dX1_choose_34 rfl ?_
      refine rn_iconst (v := nI 2) dX1_choose_36 (by decide) ?_
      refine rn_aload_n dX1_choose_37 rfl rfl ?_
      refine rn_getI dX1_choose_38 fd_1_25 (sk_l hs 1 (by decide)) (sk_k1 hs) rfl ?_
      refine rn_top (y := nI h) (hX1.2.1) ?_
      refine rn_imul dX1_choose_41 ?_
      refine rn_top (pk_mul _ _) ?_
      refine rn_icmp_geN (tgt := 98) dX1_choose_42 (by decide) (by omega) (by omega) (fun c_42 => ?_) (fun c_42 => ?_)
      · refine rn_return dX1_choose_98 rfl ?_
        rw [rowsP_n (by omega), List.foldl_nil] at hT
        rw [hT]
        exact ⟨rfl, rfl, hC⟩
      · omega
    | succ m ihj =>
      intro j hm hj1 hj2 σ I hC hlen hT
      have LI : ∀ n i, 2 * w - i ≤ n → 1 ≤ i → i ≤ 2 * w + 1 → (i + j) % 2 = 1 → j < 2 * h → ∀ σ I, CI I0 σ I → σ.2.length + ((rowP w j i).length + (rowsP w h (j + 1)).length) ≤ 120 → T = List.foldl (jStep w h M P) (List.foldl (jStep w h M P) σ (rowP w j i)) (rowsP w h (j + 1)) → am_Rn 3 Y_X1_choose (0, 0) 53 [some (.ref 12), some (.ref 1), some (.ref 5), some (.ref 7), some (.int (nI j)), some (.int (nI i))] [] S I (fun r S' I' => r = none ∧ S' = S ∧ CI I0 T I') := by
        intro n
        induction n with
        | zero =>
          intro i hm2 hi1 hi2 hp hjh σ I hC hlen hT
          have K : ∀ σ I, CI I0 σ I → σ.2.length + (rowsP w h (j + 1)).length ≤ 120 → T = List.foldl (jStep w h M P) σ (rowsP w h (j + 1)) → am_Rn 3 Y_X1_choose (0, 0) 92 [some (.ref 12), some (.ref 1), some (.ref 5), some (.ref 7), some (.int (nI j)), none] [] S I (fun r S' I' => r = none ∧ S' = S ∧ CI I0 T I') := by
            intro σ I hC hlen hT
            have hX1 := hC.dr (by decide) (by decide) hX
            refine rn_iinc (v := nI (j + 1)) (ls' := [some (.ref 12), some (.ref 1), some (.ref 5), some (.ref 7), some (.int (nI (j + 1))), none]) dX1_choose_92 rfl (nI_add _ 1) (by decide) rfl rfl ?_
            refine rn_goto (tgt := 34) dX1_choose_95 (by decide) ?_
            exact ihj (j + 1) (by omega) (by omega) (by omega) σ I hC (by omega) hT
          have hX1 := hC.dr (by decide) (by decide) hX
          refine rn_iload dX1_choose_53 rfl ?_
          refine rn_iconst (v := nI 2) dX1_choose_55 (by decide) ?_
          refine rn_aload_n dX1_choose_56 rfl rfl ?_
          refine rn_getI dX1_choose_57 fd_1_30 (sk_l hs 1 (by decide)) (sk_k1 hs) rfl ?_
          refine rn_top (y := nI w) (hX1.1) ?_
          refine rn_imul dX1_choose_60 ?_
          refine rn_top (pk_mul _ _) ?_
          refine rn_icmp_geN (tgt := 92) dX1_choose_61 (by decide) (by omega) (by omega) (fun c_61 => ?_) (fun c_61 => ?_)
          · rw [rowP_n (by omega), List.foldl_nil] at hT
            rw [rowP_n (by omega), List.length_nil] at hlen
            refine rn_ls (ls' := [some (.ref 12), some (.ref 1), some (.ref 5), some (.ref 7), some (.int (nI j)), none]) rfl (fun k x h => by rcases k with _ | _ | _ | _ | _ | _ | k <;> first | exact h | (simp at h)) ?_
            exact K σ I hC (by omega) hT
          · omega
        | succ n ih =>
          intro i hm2 hi1 hi2 hp hjh σ I hC hlen hT
          have K : ∀ σ I, CI I0 σ I → σ.2.length + (rowsP w h (j + 1)).length ≤ 120 → T = List.foldl (jStep w h M P) σ (rowsP w h (j + 1)) → am_Rn 3 Y_X1_choose (0, 0) 92 [some (.ref 12), some (.ref 1), some (.ref 5), some (.ref 7), some (.int (nI j)), none] [] S I (fun r S' I' => r = none ∧ S' = S ∧ CI I0 T I') := by
            intro σ I hC hlen hT
            have hX1 := hC.dr (by decide) (by decide) hX
            refine rn_iinc (v := nI (j + 1)) (ls' := [some (.ref 12), some (.ref 1), some (.ref 5), some (.ref 7), some (.int (nI (j + 1))), none]) dX1_choose_92 rfl (nI_add _ 1) (by decide) rfl rfl ?_
            refine rn_goto (tgt := 34) dX1_choose_95 (by decide) ?_
            exact ihj (j + 1) (by omega) (by omega) (by omega) σ I hC (by omega) hT
          have hX1 := hC.dr (by decide) (by decide) hX
          refine rn_iload dX1_choose_53 rfl ?_
          refine rn_iconst (v := nI 2) dX1_choose_55 (by decide) ?_
          refine rn_aload_n dX1_choose_56 rfl rfl ?_
          refine rn_getI dX1_choose_57 fd_1_30 (sk_l hs 1 (by decide)) (sk_k1 hs) rfl ?_
          refine rn_top (y := nI w) (hX1.1) ?_
          refine rn_imul dX1_choose_60 ?_
          refine rn_top (pk_mul _ _) ?_
          refine rn_icmp_geN (tgt := 92) dX1_choose_61 (by decide) (by omega) (by omega) (fun c_61 => ?_) (fun c_61 => ?_)
          · rw [rowP_n (by omega), List.foldl_nil] at hT
            rw [rowP_n (by omega), List.length_nil] at hlen
            refine rn_ls (ls' := [some (.ref 12), some (.ref 1), some (.ref 5), some (.ref 7), some (.int (nI j)), none]) rfl (fun k x h => by rcases k with _ | _ | _ | _ | _ | _ | k <;> first | exact h | (simp at h)) ?_
            exact K σ I hC (by omega) hT
          · have hin : nInner w h i j = true := nIn.mpr (by omega)
            rw [rowP_c (by omega), List.foldl_cons] at hT
            rw [rowP_c (by omega), List.length_cons] at hlen
            have hP1 := hC.dr (by decide) (by decide) hPX
            have hp2 := hokP i j hin
            have hu := ul_b hin
            have hs1 : st1 w M i j < 4 * w * h := by unfold st1; split <;> omega
            have hA9 := lnum_lt (M := M) w1 (show ulS w i j < 4 * w * h by omega)
            have hB9 := lnum_lt (M := M) w1 hs1
            refine rn_aload_n dX1_choose_64 rfl rfl ?_
            refine rn_iload dX1_choose_65 rfl ?_
            refine rn_iload dX1_choose_67 rfl ?_
            refine rn_callSNq (st := [.ref 5]) dX1_choose_69 cf_1_33 (c_X7_placeOf _ _ (by omega)) (by decide) rfl rfl (Nat.le_of_ble_eq_true rfl) ?_
            refine rn_ialoadN dX1_choose_72 (sk_l hs 5 (by decide)) (sk_k5 hs) (by omega) (by omega) ?_
            refine rn_top (y := nI (P i j)) (hP1.at w8 h8 hin) ?_
            refine rn_if_neN (tgt := 86) dX1_choose_73 (by decide) (by omega) (fun c_73 => ?_) (fun c_73 => ?_)
            · refine rn_iinc (v := nI (i + 2)) (ls' := [some (.ref 12), some (.ref 1), some (.ref 5), some (.ref 7), some (.int (nI j)), some (.int (nI (i + 2)))]) dX1_choose_86 rfl (nI_add _ 2) (by decide) rfl rfl ?_
              refine rn_goto (tgt := 53) dX1_choose_89 (by decide) ?_
              rw [jStep_f (Or.inl c_73)] at hT
              exact ih (i + 2) (by omega) (by omega) (by omega) (by omega) hjh _ _ hC (by omega) hT
            · refine rn_aload_n dX1_choose_76 rfl rfl ?_
              refine rn_aload_n dX1_choose_77 rfl rfl ?_
              refine rn_aload_n dX1_choose_78 rfl rfl ?_
              refine rn_iload dX1_choose_79 rfl ?_
              refine rn_iload dX1_choose_81 rfl ?_
              refine rn_callV0 (st := []) dX1_choose_83 cf_1_37 (c_X1_tryPoint hs w1 w8 h8 hok hX1 (hC.lx hL) hin hC.2.2.1 (by omega)) (by decide) (sk_l hs 12 (by decide)) (sk_k12 hs) rfl rfl (Nat.le_of_ble_eq_true rfl) (fun r1 S1 I1 hq => ?_)
              obtain ⟨rfl, rfl, hcs⟩ := hq
              have hC1 := hC.step (P := P) (by omega) (by omega) c_73 hcs
              refine rn_iinc (v := nI (i + 2)) (ls' := [some (.ref 12), some (.ref 1), some (.ref 5), some (.ref 7), some (.int (nI j)), some (.int (nI (i + 2)))]) dX1_choose_86 rfl (nI_add _ 2) (by decide) rfl rfl ?_
              refine rn_goto (tgt := 53) dX1_choose_89 (by decide) ?_
              exact ih (i + 2) (by omega) (by omega) (by omega) (by omega) hjh _ _ hC1 (by have := jStep_len (w := w) (h := h) (M := M) (P := P) σ (i, j); omega) hT
      have hX1 := hC.dr (by decide) (by decide) hX
      refine rn_iload dX1_choose_34 rfl ?_
      refine rn_iconst (v := nI 2) dX1_choose_36 (by decide) ?_
      refine rn_aload_n dX1_choose_37 rfl rfl ?_
      refine rn_getI dX1_choose_38 fd_1_25 (sk_l hs 1 (by decide)) (sk_k1 hs) rfl ?_
      refine rn_top (y := nI h) (hX1.2.1) ?_
      refine rn_imul dX1_choose_41 ?_
      refine rn_top (pk_mul _ _) ?_
      refine rn_icmp_geN (tgt := 98) dX1_choose_42 (by decide) (by omega) (by omega) (fun c_42 => ?_) (fun c_42 => ?_)
      · refine rn_return dX1_choose_98 rfl ?_
        rw [rowsP_n (by omega), List.foldl_nil] at hT
        rw [hT]
        exact ⟨rfl, rfl, hC⟩
      · rw [rowsP_c (by omega), List.foldl_append] at hT
        rw [rowsP_c (by omega), List.length_append] at hlen
        refine rn_iconst (v := nI 1) dX1_choose_45 (by decide) ?_
        refine rn_iload dX1_choose_46 rfl ?_
        refine rn_iconst (v := nI 1) dX1_choose_48 (by decide) ?_
        refine rn_iand dX1_choose_49 ?_
        refine rn_top (z_nand (by omega)) ?_
        refine rn_iadd dX1_choose_50 ?_
        refine rn_top (nI_add _ _) ?_
        refine rn_istore (ls' := [some (.ref 12), some (.ref 1), some (.ref 5), some (.ref 7), some (.int (nI j)), some (.int (nI (1 + (j % 2))))]) dX1_choose_51 (by decide) rfl rfl ?_
        exact LI _ (1 + j % 2) (Nat.le_refl _) (by omega) (by omega) (by omega) (by omega) σ I hC hlen hT
  have L8 : ∀ k, k ≤ 256 → am_Rn 3 Y_X1_choose (0, 0) 8 [some (.ref 12), some (.ref 1), some (.ref 5), some (.ref 7), some (.int (nI k)), none] [] S (va_up (am_up I0 12 0 (nI 0)) 15 (idF (am_up I0 12 0 (nI 0) 15) k)) (fun r S' I' => r = none ∧ S' = S ∧ CI I0 T I') := by
    refine am_loop 256 (fun k hk ih => ?_)
    refine rn_iload dX1_choose_8 rfl ?_
    refine rn_sipush (v := nI 256) dX1_choose_10 (by decide) ?_
    refine rn_icmp_geN (tgt := 31) dX1_choose_13 (by decide) (by omega) (by omega) (fun c_13 => ?_) (fun c_13 => ?_)
    · refine rn_iconst (v := nI 1) dX1_choose_31 (by decide) ?_
      refine rn_istore (ls' := [some (.ref 12), some (.ref 1), some (.ref 5), some (.ref 7), some (.int (nI 1)), none]) dX1_choose_32 (by decide) rfl rfl ?_
      obtain rfl : k = 256 := by omega
      exact LJ _ 1 (Nat.le_refl _) (by omega) (by omega) _ _ CI0 (by have := pts_len w8 h8; unfold pts at this; simp only [List.length_nil]; omega) hTe
    · refine rn_aload_n dX1_choose_16 rfl rfl ?_
      refine rn_getR (r := 15) dX1_choose_17 fd_1_18 (sk_l hs 12 (by decide)) (sk_k12 hs) rfl (sk_r12_3 hs) ?_
      refine rn_iload dX1_choose_20 rfl ?_
      refine rn_iload dX1_choose_22 rfl ?_
      refine rn_iastoreN dX1_choose_24 (sk_l hs 15 (by decide)) (sk_k15 hs) (by omega) (by omega) ?_
      refine rn_iinc (v := nI (k + 1)) (ls' := [some (.ref 12), some (.ref 1), some (.ref 5), some (.ref 7), some (.int (nI (k + 1))), none]) dX1_choose_25 rfl (nI_add _ 1) (by decide) rfl rfl ?_
      refine rn_goto (tgt := 8) dX1_choose_28 (by decide) ?_
      refine rn_I (idF_step _ 15 k) ?_
      exact ih (by omega)
  refine am_mt ⟨by decide +kernel, rfl⟩ (Nat.le_of_ble_eq_true rfl) rfl ?_
  refine rn_aload_n dX1_choose_0 rfl rfl ?_
  refine rn_iconst (v := nI 0) dX1_choose_1 (by decide) ?_
  refine rn_putI dX1_choose_2 fd_1_21 (sk_l hs 12 (by decide)) (sk_k12 hs) rfl rfl (vp_nar_int _) rfl ?_
  refine rn_iconst (v := nI 0) dX1_choose_5 (by decide) ?_
  refine rn_istore (ls' := [some (.ref 12), some (.ref 1), some (.ref 5), some (.ref 7), some (.int (nI 0)), none]) dX1_choose_6 (by decide) rfl rfl ?_
  refine rn_I (idF_0 _ 15) ?_
  exact L8 0 (by omega)
/-- the joiner's choice -/
def JX (w h : Nat) (M P : Nat → Nat → Nat) (I : am_I) : Prop := I 12 0 = nI (jC w h M P).length ∧ ∀ k, k < (jC w h M P).length → I 13 k = nI ((jC w h M P).getD k (0, 0)).1 ∧ I 14 k = nI ((jC w h M P).getD k (0, 0)).2
def XJ (w h : Nat) (M P : Nat → Nat → Nat) (I : am_I) : Prop := I 0 10 = nI 0 ∨ (I 0 10 = nI 1 ∧ JX w h M P I)
def KJ (w h : Nat) (M P : Nat → Nat → Nat) (I I' : am_I) : Prop := (∀ b, b ≠ 0 → (b < 7 ∨ 15 < b) → I' b = I b) ∧ (∀ k, k ≠ 9 → k ≠ 10 → I' 0 k = I 0 k) ∧ I' 0 9 = nI 1 ∧ LX w h M I' 8 9 10 11 ∧ I' 7 0 = nI (lcnt w h M) ∧ I' 0 10 = nI 1 ∧ JX w h M P I'
def KJW (w h : Nat) (M P : Nat → Nat → Nat) (I I' : am_I) : Prop := (∀ b, b ≠ 0 → (b < 7 ∨ 15 < b) → I' b = I b) ∧ (∀ k, k ≠ 9 → k ≠ 10 → I' 0 k = I 0 k) ∧ XL w h M I' ∧ XJ w h M P I'
theorem KJ.dr {w h : Nat} {M P M' : Nat → Nat → Nat} {I I' : am_I} {q : Nat} (hK : KJ w h M P I I') (hq : q ≠ 0 ∧ (q < 7 ∨ 15 < q)) (hX : isDr I 1 q w h M') : isDr I' 1 q w h M' := hX.kept (hK.1 1 (by decide) (by decide)) (hK.1 q hq.1 hq.2)
theorem KJ.kw {w h : Nat} {M P : Nat → Nat → Nat} {I I' : am_I} (hK : KJ w h M P I I') (hX : XL w h M I) : KJW w h M P I I' := ⟨hK.1, hK.2.1, ⟨hK.dr (by decide) hX.1, Or.inr ⟨hK.2.2.1, hK.2.2.2.1, hK.2.2.2.2.1⟩⟩, Or.inr ⟨hK.2.2.2.2.2.1, hK.2.2.2.2.2.2⟩⟩
theorem JX.moved {w h : Nat} {M P : Nat → Nat → Nat} {I I' : am_I} (hJ : JX w h M P I) (h1 : I' 12 = I 12) (h2 : I' 13 = I 13) (h3 : I' 14 = I 14) : JX w h M P I' := ⟨by rw [h1]; exact hJ.1, fun k hk => by rw [h2, h3]; exact hJ.2 k hk⟩
set_option maxHeartbeats 1000000 in
set_option maxRecDepth 100000 in
theorem c_X7_knowJoin {S : am_S} (hs : sk S) {I : am_I} {w h : Nat} {M P : Nat → Nat → Nat} (w1 : 1 ≤ w) (w8 : w ≤ 8) (h1 : 1 ≤ h) (h8 : h ≤ 8) (hok : okM w h M) (hokP : okM w h P) (hX : XL w h M I) (hPX : isDr I 1 5 w h P) (hJ : XJ w h M P I) : am_Mt 5 Y_X7_knowJoin (0, 0) [.ref 0] S I (fun r S' I' => r = none ∧ S' = S ∧ KJ w h M P I I') := by
  have z10 : ∀ {I1 : am_I}, KN w h M I I1 → I1 0 10 = I 0 10 := fun hK => hK.2.1 10 (by decide)
  rcases hJ with h9 | ⟨h9, hJ⟩
  · refine am_mt ⟨by decide +kernel, rfl⟩ (Nat.le_of_ble_eq_true rfl) rfl ?_
    refine rn_aload_n dX7_knowJoin_0 rfl rfl ?_
    refine rn_callV0 (st := []) dX7_knowJoin_1 cf_7_103 (c_X7_knowLines hs w1 w8 h1 h8 hok hX) (by decide) (sk_l hs 0 (by decide)) (sk_k0 hs) rfl rfl (Nat.le_of_ble_eq_true rfl) (fun r1 S1 I1 hq => ?_)
    obtain ⟨rfl, rfl, hK⟩ := hq
    have hD1 := hK.dr hX
    refine rn_aload_n dX7_knowJoin_4 rfl rfl ?_
    refine rn_getI dX7_knowJoin_5 fd_7_83 (sk_l hs 0 (by decide)) (sk_k0 hs) rfl ?_
    refine rn_top (y := nI 0) ((z10 hK).trans h9) ?_
    refine rn_if_neN (tgt := 35) dX7_knowJoin_8 (by decide) (by omega) (fun c_8 => ?_) (fun c_8 => ?_)
    · exact absurd c_8 (by decide)
    · refine rn_aload_n dX7_knowJoin_11 rfl rfl ?_
      refine rn_getR (r := 12) dX7_knowJoin_12 fd_7_50 (sk_l hs 0 (by decide)) (sk_k0 hs) rfl (sk_r0_5 hs) ?_
      refine rn_aload_n dX7_knowJoin_15 rfl rfl ?_
      refine rn_getR (r := 1) dX7_knowJoin_16 fd_7_10 (sk_l hs 0 (by decide)) (sk_k0 hs) rfl (sk_r0_0 hs) ?_
      refine rn_aload_n dX7_knowJoin_19 rfl rfl ?_
      refine rn_getR (r := 5) dX7_knowJoin_20 fd_7_32 (sk_l hs 0 (by decide)) (sk_k0 hs) rfl (sk_r0_2 hs) ?_
      refine rn_aload_n dX7_knowJoin_23 rfl rfl ?_
      refine rn_getR (r := 7) dX7_knowJoin_24 fd_7_43 (sk_l hs 0 (by decide)) (sk_k0 hs) rfl (sk_r0_4 hs) ?_
      refine rn_callV0 (st := []) dX7_knowJoin_27 cf_7_221 (c_X1_choose hs w1 w8 h1 h8 hok hokP hD1 (hPX.kept (hK.1 1 (by decide) (by decide) (by decide) (by decide) (by decide) (by decide)) (hK.1 5 (by decide) (by decide) (by decide) (by decide) (by decide) (by decide))) hK.2.2.2.1) (by decide) (sk_l hs 12 (by decide)) (sk_k12 hs) rfl rfl (Nat.le_of_ble_eq_true rfl) (fun r2 S2 I2 hq => ?_)
      obtain ⟨rfl, rfl, hC⟩ := hq
      refine rn_aload_n dX7_knowJoin_30 rfl rfl ?_
      refine rn_iconst (v := nI 1) dX7_knowJoin_31 (by decide) ?_
      refine rn_putI dX7_knowJoin_32 fd_7_83 (sk_l hs 0 (by decide)) (sk_k0 hs) rfl rfl (by decide) (by decide) ?_
      refine rn_return dX7_knowJoin_35 rfl ?_
      refine ⟨rfl, rfl, fun b b0 b1 => ?_, fun k k9 k10 => ?_, ?_, ?_, ?_, ?_, ?_, fun k hk => ?_⟩
      · rw [am_up_a _ _ b0, hC.1 b (by omega) (by omega) (by omega) (by omega)]; exact hK.1 b b0 (by omega) (by omega) (by omega) (by omega) (by omega)
      · rw [am_up_k _ _ k10, hC.1 0 (by decide) (by decide) (by decide) (by decide)]; exact hK.2.1 k k9
      · rw [am_up_k _ _ (by decide), hC.1 0 (by decide) (by decide) (by decide) (by decide)]; exact hK.2.2.1
      · exact (hC.lx hK.2.2.2.1).moved (am_up_a _ _ (by decide)) (am_up_a _ _ (by decide)) (am_up_a _ _ (by decide)) (am_up_a _ _ (by decide))
      · rw [am_up_a _ _ (by decide), hC.1 7 (by decide) (by decide) (by decide) (by decide)]; exact hK.2.2.2.2
      · rw [am_up_at]
      · rw [am_up_a _ _ (by decide)]; exact hC.2.2.1
      · rw [am_up_a _ _ (by decide), am_up_a _ _ (by decide)]; exact hC.2.2.2 k hk
  · refine am_mt ⟨by decide +kernel, rfl⟩ (Nat.le_of_ble_eq_true rfl) rfl ?_
    refine rn_aload_n dX7_knowJoin_0 rfl rfl ?_
    refine rn_callV0 (st := []) dX7_knowJoin_1 cf_7_103 (c_X7_knowLines hs w1 w8 h1 h8 hok hX) (by decide) (sk_l hs 0 (by decide)) (sk_k0 hs) rfl rfl (Nat.le_of_ble_eq_true rfl) (fun r1 S1 I1 hq => ?_)
    obtain ⟨rfl, rfl, hK⟩ := hq
    have hD1 := hK.dr hX
    refine rn_aload_n dX7_knowJoin_4 rfl rfl ?_
    refine rn_getI dX7_knowJoin_5 fd_7_83 (sk_l hs 0 (by decide)) (sk_k0 hs) rfl ?_
    refine rn_top (y := nI 1) ((z10 hK).trans h9) ?_
    refine rn_if_neN (tgt := 35) dX7_knowJoin_8 (by decide) (by omega) (fun c_8 => ?_) (fun c_8 => ?_)
    · refine rn_return dX7_knowJoin_35 rfl ?_
      exact ⟨rfl, rfl, fun b b0 b1 => hK.1 b b0 (by omega) (by omega) (by omega) (by omega) (by omega), fun k k9 _ => hK.2.1 k k9, hK.2.2.1, hK.2.2.2.1, hK.2.2.2.2, (z10 hK).trans h9, hJ.moved (hK.1 12 (by decide) (by decide) (by decide) (by decide) (by decide) (by decide)) (hK.1 13 (by decide) (by decide) (by decide) (by decide) (by decide) (by decide)) (hK.1 14 (by decide) (by decide) (by decide) (by decide) (by decide) (by decide))⟩
    · exact absurd c_8 (by decide)
noncomputable def vJoined (w h : Nat) (M P : Nat → Nat → Nat) (t : Int32) : Int32 := if t = nI 0 then nI (lcnt w h M) - nI (jC w h M P).length else if t = nI 1 then nI (jC w h M P).length else -1
set_option maxHeartbeats 1000000 in
set_option maxRecDepth 100000 in
theorem c_X7_joined {S : am_S} (hs : sk S) {I : am_I} {w h : Nat} {M P : Nat → Nat → Nat} (w1 : 1 ≤ w) (w8 : w ≤ 8) (h1 : 1 ≤ h) (h8 : h ≤ 8) (hok : okM w h M) (hokP : okM w h P) (hX : XL w h M I) (hPX : isDr I 1 5 w h P) (hJ : XJ w h M P I) (t : Int32) : am_Mt 6 Y_X7_joined (0, 0) [.ref 0, .int t] S I (fun r S' I' => r = some (.int (vJoined w h M P t)) ∧ S' = S ∧ KJW w h M P I I') := by
  have hjl := jC_len (M := M) (P := P) w8 h8
  by_cases q0 : t = nI 0
  · rw [show vJoined w h M P t = nI (lcnt w h M) - nI (jC w h M P).length by unfold vJoined; rw [if_pos q0], q0]
    refine am_mt ⟨by decide +kernel, rfl⟩ (Nat.le_of_ble_eq_true rfl) rfl ?_
    refine rn_aload_n dX7_joined_0 rfl rfl ?_
    refine rn_callV0 (st := []) dX7_joined_1 cf_7_146 (c_X7_knowJoin hs w1 w8 h1 h8 hok hokP hX hPX hJ) (by decide) (sk_l hs 0 (by decide)) (sk_k0 hs) rfl rfl (Nat.le_of_ble_eq_true rfl) (fun r1 S1 I1 hq => ?_)
    obtain ⟨rfl, rfl, hK⟩ := hq
    have hD1 := hK.dr (by decide) hX.1
    refine rn_iload_n dX7_joined_4 rfl rfl ?_
    refine rn_lookup (off := 27) (tgt := 32) dX7_joined_5 (by decide) (by decide) (by decide) ?_
    refine rn_aload_n dX7_joined_32 rfl rfl ?_
    refine rn_getR (r := 7) dX7_joined_33 fd_7_43 (sk_l hs 0 (by decide)) (sk_k0 hs) rfl (sk_r0_4 hs) ?_
    refine rn_getI dX7_joined_36 fd_7_106 (sk_l hs 7 (by decide)) (sk_k7 hs) rfl ?_
    refine rn_top (y := nI (lcnt w h M)) (hK.2.2.2.2.1) ?_
    refine rn_aload_n dX7_joined_39 rfl rfl ?_
    refine rn_getR (r := 12) dX7_joined_40 fd_7_50 (sk_l hs 0 (by decide)) (sk_k0 hs) rfl (sk_r0_5 hs) ?_
    refine rn_getI dX7_joined_43 fd_7_149 (sk_l hs 12 (by decide)) (sk_k12 hs) rfl ?_
    refine rn_top (y := nI ((jC w h M P).length)) (hK.2.2.2.2.2.2.1) ?_
    refine rn_isub dX7_joined_46 ?_
    refine rn_ireturn dX7_joined_47 rfl (vp_nar_int _) ?_
    exact ⟨rfl, rfl, hK.kw hX⟩
  by_cases q1 : t = nI 1
  · rw [show vJoined w h M P t = nI (jC w h M P).length by unfold vJoined; rw [if_neg q0, if_pos q1], q1]
    refine am_mt ⟨by decide +kernel, rfl⟩ (Nat.le_of_ble_eq_true rfl) rfl ?_
    refine rn_aload_n dX7_joined_0 rfl rfl ?_
    refine rn_callV0 (st := []) dX7_joined_1 cf_7_146 (c_X7_knowJoin hs w1 w8 h1 h8 hok hokP hX hPX hJ) (by decide) (sk_l hs 0 (by decide)) (sk_k0 hs) rfl rfl (Nat.le_of_ble_eq_true rfl) (fun r1 S1 I1 hq => ?_)
    obtain ⟨rfl, rfl, hK⟩ := hq
    have hD1 := hK.dr (by decide) hX.1
    refine rn_iload_n dX7_joined_4 rfl rfl ?_
    refine rn_lookup (off := 43) (tgt := 48) dX7_joined_5 (by decide) (by decide) (by decide) ?_
    refine rn_aload_n dX7_joined_48 rfl rfl ?_
    refine rn_getR (r := 12) dX7_joined_49 fd_7_50 (sk_l hs 0 (by decide)) (sk_k0 hs) rfl (sk_r0_5 hs) ?_
    refine rn_getI dX7_joined_52 fd_7_149 (sk_l hs 12 (by decide)) (sk_k12 hs) rfl ?_
    refine rn_top (y := nI ((jC w h M P).length)) (hK.2.2.2.2.2.2.1) ?_
    refine rn_ireturn dX7_joined_55 rfl (vp_nar_int _) ?_
    exact ⟨rfl, rfl, hK.kw hX⟩
  rw [show vJoined w h M P t = -1 by unfold vJoined; rw [if_neg q0, if_neg q1]]
  refine am_mt ⟨by decide +kernel, rfl⟩ (Nat.le_of_ble_eq_true rfl) rfl ?_
  refine rn_aload_n dX7_joined_0 rfl rfl ?_
  refine rn_callV0 (st := []) dX7_joined_1 cf_7_146 (c_X7_knowJoin hs w1 w8 h1 h8 hok hokP hX hPX hJ) (by decide) (sk_l hs 0 (by decide)) (sk_k0 hs) rfl rfl (Nat.le_of_ble_eq_true rfl) (fun r1 S1 I1 hq => ?_)
  obtain ⟨rfl, rfl, hK⟩ := hq
  have hD1 := hK.dr (by decide) hX.1
  refine rn_iload_n dX7_joined_4 rfl rfl ?_
  refine rn_lookup (off := 51) (tgt := 56) dX7_joined_5 (by decide) (lk2_out q0 q1) (by decide) ?_
  refine rn_iconst (v := (-1)) dX7_joined_56 (by decide) ?_
  refine rn_ireturn dX7_joined_57 rfl (vp_nar_int _) ?_
  exact ⟨rfl, rfl, hK.kw hX⟩
noncomputable def vChgIn (w h : Nat) (M P : Nat → Nat → Nat) (k : Nat) (t : Int32) : Int32 := if t = nI 0 then nI ((jC w h M P).getD k (0, 0)).1 else if t = nI 1 then nI ((jC w h M P).getD k (0, 0)).2 else if t = nI 2 then nI (lo (M ((jC w h M P).getD k (0, 0)).1 ((jC w h M P).getD k (0, 0)).2)) else -1
noncomputable def vChg (w h : Nat) (M P : Nat → Nat → Nat) (k t : Int32) : Int32 := if 0 ≤ k.toInt ∧ k.toInt < ((jC w h M P).length : Int) then vChgIn w h M P k.toInt.toNat t else -1
theorem tb_out2 {t : Int32} (h0 : ¬ t = nI 0) (h1 : ¬ t = nI 1) (h2 : ¬ t = nI 2) : t.toInt < 0 ∨ 2 < t.toInt := by
  rw [z_eq, z_nI (by decide)] at h0 h1 h2
  omega
set_option maxHeartbeats 1000000 in
set_option maxRecDepth 100000 in
theorem c_X7_change {S : am_S} (hs : sk S) {I : am_I} {w h : Nat} {M P : Nat → Nat → Nat} (w1 : 1 ≤ w) (w8 : w ≤ 8) (h1 : 1 ≤ h) (h8 : h ≤ 8) (hok : okM w h M) (hokP : okM w h P) (hX : XL w h M I) (hPX : isDr I 1 5 w h P) (hJ : XJ w h M P I) (k t : Int32) : am_Mt 6 Y_X7_change (0, 0) [.ref 0, .int k, .int t] S I (fun r S' I' => r = some (.int (vChg w h M P k t)) ∧ S' = S ∧ KJW w h M P I I') := by
  have hjl := jC_len (M := M) (P := P) w8 h8
  by_cases hin0 : 0 ≤ k.toInt ∧ k.toInt < ((jC w h M P).length : Int)
  · obtain ⟨y, hy, rfl⟩ : ∃ y, y < (jC w h M P).length ∧ k = nI y := ⟨k.toInt.toNat, by omega, z_nat hin0.1⟩
    have ey : (nI y).toInt.toNat = y := by rw [z_nI (by omega)]; omega
    rw [show vChg w h M P (nI y) t = vChgIn w h M P y t by unfold vChg; rw [if_pos hin0, ey]]
    obtain ⟨⟨i, j⟩, hp⟩ : ∃ p, (jC w h M P).getD y (0, 0) = p := ⟨_, rfl⟩
    have hin : nInner w h i j = true := by have h9 := jC_in (getD_mem hy); rw [hp] at h9; exact h9
    have hb := nIn.mp hin
    have hm2 := hok i j hin
    by_cases q0 : t = nI 0
    · rw [show vChgIn w h M P y t = nI i by unfold vChgIn; rw [if_pos q0, hp], q0]
      refine am_mt ⟨by decide +kernel, rfl⟩ (Nat.le_of_ble_eq_true rfl) rfl ?_
      refine rn_aload_n dX7_change_0 rfl rfl ?_
      refine rn_callV0 (st := []) dX7_change_1 cf_7_146 (c_X7_knowJoin hs w1 w8 h1 h8 hok hokP hX hPX hJ) (by decide) (sk_l hs 0 (by decide)) (sk_k0 hs) rfl rfl (Nat.le_of_ble_eq_true rfl) (fun r1 S1 I1 hq => ?_)
      obtain ⟨rfl, rfl, hK⟩ := hq
      have hD1 := hK.dr (by decide) hX.1
      refine rn_iload_n dX7_change_4 rfl rfl ?_
      refine rn_if_ltN (tgt := 19) dX7_change_5 (by omega) (by decide) ?_
      refine rn_iload_n dX7_change_8 rfl rfl ?_
      refine rn_aload_n dX7_change_9 rfl rfl ?_
      refine rn_getR (r := 12) dX7_change_10 fd_7_50 (sk_l hs 0 (by decide)) (sk_k0 hs) rfl (sk_r0_5 hs) ?_
      refine rn_getI dX7_change_13 fd_7_149 (sk_l hs 12 (by decide)) (sk_k12 hs) rfl ?_
      refine rn_top (y := nI ((jC w h M P).length)) (hK.2.2.2.2.2.2.1) ?_
      refine rn_icmp_ltN (tgt := 21) dX7_change_16 (by decide) (by omega) (by omega) (fun c_16 => ?_) (fun c_16 => ?_)
      · refine rn_aload_n dX7_change_21 rfl rfl ?_
        refine rn_getR (r := 12) dX7_change_22 fd_7_50 (sk_l hs 0 (by decide)) (sk_k0 hs) rfl (sk_r0_5 hs) ?_
        refine rn_iload_n dX7_change_25 rfl rfl ?_
        refine rn_callVq (st := []) dX7_change_26 cf_7_150 (c_X1_columnOf hs hK.2.2.2.2.2.2.1 (by omega) hy) (by decide) (sk_l hs 12 (by decide)) (sk_k12 hs) rfl rfl (Nat.le_of_ble_eq_true rfl) ?_
        refine rn_top (y := nI i) (by rw [(hK.2.2.2.2.2.2.2 y hy).1, hp]) ?_
        refine rn_istore_n (ls' := [some (.ref 0), some (.int (nI y)), some (.int (nI 0)), some (.int (nI i)), none]) dX7_change_29 rfl (by decide) rfl rfl ?_
        refine rn_aload_n dX7_change_30 rfl rfl ?_
        refine rn_getR (r := 12) dX7_change_31 fd_7_50 (sk_l hs 0 (by decide)) (sk_k0 hs) rfl (sk_r0_5 hs) ?_
        refine rn_iload_n dX7_change_34 rfl rfl ?_
        refine rn_callVq (st := []) dX7_change_35 cf_7_153 (c_X1_rowOf hs hK.2.2.2.2.2.2.1 (by omega) hy) (by decide) (sk_l hs 12 (by decide)) (sk_k12 hs) rfl rfl (Nat.le_of_ble_eq_true rfl) ?_
        refine rn_top (y := nI j) (by rw [(hK.2.2.2.2.2.2.2 y hy).2, hp]) ?_
        refine rn_istore (ls' := [some (.ref 0), some (.int (nI y)), some (.int (nI 0)), some (.int (nI i)), some (.int (nI j))]) dX7_change_38 (by decide) rfl rfl ?_
        refine rn_iload_n dX7_change_40 rfl rfl ?_
        refine rn_tableIn (off := 27) (tgt := 68) dX7_change_41 (by decide) (by decide) (by decide) (by decide) ?_
        refine rn_iload_n dX7_change_68 rfl rfl ?_
        refine rn_ireturn dX7_change_69 rfl (vp_nar_int _) ?_
        exact ⟨rfl, rfl, hK.kw hX⟩
      · omega
    by_cases q1 : t = nI 1
    · rw [show vChgIn w h M P y t = nI j by unfold vChgIn; rw [if_neg q0, if_pos q1, hp], q1]
      refine am_mt ⟨by decide +kernel, rfl⟩ (Nat.le_of_ble_eq_true rfl) rfl ?_
      refine rn_aload_n dX7_change_0 rfl rfl ?_
      refine rn_callV0 (st := []) dX7_change_1 cf_7_146 (c_X7_knowJoin hs w1 w8 h1 h8 hok hokP hX hPX hJ) (by decide) (sk_l hs 0 (by decide)) (sk_k0 hs) rfl rfl (Nat.le_of_ble_eq_true rfl) (fun r1 S1 I1 hq => ?_)
      obtain ⟨rfl, rfl, hK⟩ := hq
      have hD1 := hK.dr (by decide) hX.1
      refine rn_iload_n dX7_change_4 rfl rfl ?_
      refine rn_if_ltN (tgt := 19) dX7_change_5 (by omega) (by decide) ?_
      refine rn_iload_n dX7_change_8 rfl rfl ?_
      refine rn_aload_n dX7_change_9 rfl rfl ?_
      refine rn_getR (r := 12) dX7_change_10 fd_7_50 (sk_l hs 0 (by decide)) (sk_k0 hs) rfl (sk_r0_5 hs) ?_
      refine rn_getI dX7_change_13 fd_7_149 (sk_l hs 12 (by decide)) (sk_k12 hs) rfl ?_
      refine rn_top (y := nI ((jC w h M P).length)) (hK.2.2.2.2.2.2.1) ?_
      refine rn_icmp_ltN (tgt := 21) dX7_change_16 (by decide) (by omega) (by omega) (fun c_16 => ?_) (fun c_16 => ?_)
      · refine rn_aload_n dX7_change_21 rfl rfl ?_
        refine rn_getR (r := 12) dX7_change_22 fd_7_50 (sk_l hs 0 (by decide)) (sk_k0 hs) rfl (sk_r0_5 hs) ?_
        refine rn_iload_n dX7_change_25 rfl rfl ?_
        refine rn_callVq (st := []) dX7_change_26 cf_7_150 (c_X1_columnOf hs hK.2.2.2.2.2.2.1 (by omega) hy) (by decide) (sk_l hs 12 (by decide)) (sk_k12 hs) rfl rfl (Nat.le_of_ble_eq_true rfl) ?_
        refine rn_top (y := nI i) (by rw [(hK.2.2.2.2.2.2.2 y hy).1, hp]) ?_
        refine rn_istore_n (ls' := [some (.ref 0), some (.int (nI y)), some (.int (nI 1)), some (.int (nI i)), none]) dX7_change_29 rfl (by decide) rfl rfl ?_
        refine rn_aload_n dX7_change_30 rfl rfl ?_
        refine rn_getR (r := 12) dX7_change_31 fd_7_50 (sk_l hs 0 (by decide)) (sk_k0 hs) rfl (sk_r0_5 hs) ?_
        refine rn_iload_n dX7_change_34 rfl rfl ?_
        refine rn_callVq (st := []) dX7_change_35 cf_7_153 (c_X1_rowOf hs hK.2.2.2.2.2.2.1 (by omega) hy) (by decide) (sk_l hs 12 (by decide)) (sk_k12 hs) rfl rfl (Nat.le_of_ble_eq_true rfl) ?_
        refine rn_top (y := nI j) (by rw [(hK.2.2.2.2.2.2.2 y hy).2, hp]) ?_
        refine rn_istore (ls' := [some (.ref 0), some (.int (nI y)), some (.int (nI 1)), some (.int (nI i)), some (.int (nI j))]) dX7_change_38 (by decide) rfl rfl ?_
        refine rn_iload_n dX7_change_40 rfl rfl ?_
        refine rn_tableIn (off := 29) (tgt := 70) dX7_change_41 (by decide) (by decide) (by decide) (by decide) ?_
        refine rn_iload dX7_change_70 rfl ?_
        refine rn_ireturn dX7_change_72 rfl (vp_nar_int _) ?_
        exact ⟨rfl, rfl, hK.kw hX⟩
      · omega
    by_cases q2 : t = nI 2
    · rw [show vChgIn w h M P y t = nI (lo (M i j)) by unfold vChgIn; rw [if_neg q0, if_neg q1, if_pos q2, hp], q2]
      refine am_mt ⟨by decide +kernel, rfl⟩ (Nat.le_of_ble_eq_true rfl) rfl ?_
      refine rn_aload_n dX7_change_0 rfl rfl ?_
      refine rn_callV0 (st := []) dX7_change_1 cf_7_146 (c_X7_knowJoin hs w1 w8 h1 h8 hok hokP hX hPX hJ) (by decide) (sk_l hs 0 (by decide)) (sk_k0 hs) rfl rfl (Nat.le_of_ble_eq_true rfl) (fun r1 S1 I1 hq => ?_)
      obtain ⟨rfl, rfl, hK⟩ := hq
      have hD1 := hK.dr (by decide) hX.1
      refine rn_iload_n dX7_change_4 rfl rfl ?_
      refine rn_if_ltN (tgt := 19) dX7_change_5 (by omega) (by decide) ?_
      refine rn_iload_n dX7_change_8 rfl rfl ?_
      refine rn_aload_n dX7_change_9 rfl rfl ?_
      refine rn_getR (r := 12) dX7_change_10 fd_7_50 (sk_l hs 0 (by decide)) (sk_k0 hs) rfl (sk_r0_5 hs) ?_
      refine rn_getI dX7_change_13 fd_7_149 (sk_l hs 12 (by decide)) (sk_k12 hs) rfl ?_
      refine rn_top (y := nI ((jC w h M P).length)) (hK.2.2.2.2.2.2.1) ?_
      refine rn_icmp_ltN (tgt := 21) dX7_change_16 (by decide) (by omega) (by omega) (fun c_16 => ?_) (fun c_16 => ?_)
      · refine rn_aload_n dX7_change_21 rfl rfl ?_
        refine rn_getR (r := 12) dX7_change_22 fd_7_50 (sk_l hs 0 (by decide)) (sk_k0 hs) rfl (sk_r0_5 hs) ?_
        refine rn_iload_n dX7_change_25 rfl rfl ?_
        refine rn_callVq (st := []) dX7_change_26 cf_7_150 (c_X1_columnOf hs hK.2.2.2.2.2.2.1 (by omega) hy) (by decide) (sk_l hs 12 (by decide)) (sk_k12 hs) rfl rfl (Nat.le_of_ble_eq_true rfl) ?_
        refine rn_top (y := nI i) (by rw [(hK.2.2.2.2.2.2.2 y hy).1, hp]) ?_
        refine rn_istore_n (ls' := [some (.ref 0), some (.int (nI y)), some (.int (nI 2)), some (.int (nI i)), none]) dX7_change_29 rfl (by decide) rfl rfl ?_
        refine rn_aload_n dX7_change_30 rfl rfl ?_
        refine rn_getR (r := 12) dX7_change_31 fd_7_50 (sk_l hs 0 (by decide)) (sk_k0 hs) rfl (sk_r0_5 hs) ?_
        refine rn_iload_n dX7_change_34 rfl rfl ?_
        refine rn_callVq (st := []) dX7_change_35 cf_7_153 (c_X1_rowOf hs hK.2.2.2.2.2.2.1 (by omega) hy) (by decide) (sk_l hs 12 (by decide)) (sk_k12 hs) rfl rfl (Nat.le_of_ble_eq_true rfl) ?_
        refine rn_top (y := nI j) (by rw [(hK.2.2.2.2.2.2.2 y hy).2, hp]) ?_
        refine rn_istore (ls' := [some (.ref 0), some (.int (nI y)), some (.int (nI 2)), some (.int (nI i)), some (.int (nI j))]) dX7_change_38 (by decide) rfl rfl ?_
        refine rn_iload_n dX7_change_40 rfl rfl ?_
        refine rn_tableIn (off := 32) (tgt := 73) dX7_change_41 (by decide) (by decide) (by decide) (by decide) ?_
        refine rn_aload_n dX7_change_73 rfl rfl ?_
        refine rn_getR (r := 1) dX7_change_74 fd_7_10 (sk_l hs 0 (by decide)) (sk_k0 hs) rfl (sk_r0_0 hs) ?_
        refine rn_iload_n dX7_change_77 rfl rfl ?_
        refine rn_iload dX7_change_78 rfl ?_
        refine rn_callVq (st := []) dX7_change_80 cf_7_97 (c_X0_mAt (sk_d1 hs) hD1 w8 h8 (by omega) (by omega)) (by decide) (sk_l hs 1 (by decide)) (sk_k1 hs) rfl rfl (Nat.le_of_ble_eq_true rfl) ?_
        refine rn_top (y := nI (M i j)) (by rw [show gv w h M i j = M i j from if_pos hin]) ?_
        refine rn_callSq (st := []) dX7_change_83 cf_7_156 (c_X7_lowerOther _ _ _) (by decide) rfl rfl (Nat.le_of_ble_eq_true rfl) ?_
        refine rn_top (y := nI (lo (M i j))) (lo_n hm2) ?_
        refine rn_ireturn dX7_change_86 rfl (vp_nar_int _) ?_
        exact ⟨rfl, rfl, hK.kw hX⟩
      · omega
    rw [show vChgIn w h M P y t = -1 by unfold vChgIn; rw [if_neg q0, if_neg q1, if_neg q2]]
    refine am_mt ⟨by decide +kernel, rfl⟩ (Nat.le_of_ble_eq_true rfl) rfl ?_
    refine rn_aload_n dX7_change_0 rfl rfl ?_
    refine rn_callV0 (st := []) dX7_change_1 cf_7_146 (c_X7_knowJoin hs w1 w8 h1 h8 hok hokP hX hPX hJ) (by decide) (sk_l hs 0 (by decide)) (sk_k0 hs) rfl rfl (Nat.le_of_ble_eq_true rfl) (fun r1 S1 I1 hq => ?_)
    obtain ⟨rfl, rfl, hK⟩ := hq
    have hD1 := hK.dr (by decide) hX.1
    refine rn_iload_n dX7_change_4 rfl rfl ?_
    refine rn_if_ltN (tgt := 19) dX7_change_5 (by omega) (by decide) ?_
    refine rn_iload_n dX7_change_8 rfl rfl ?_
    refine rn_aload_n dX7_change_9 rfl rfl ?_
    refine rn_getR (r := 12) dX7_change_10 fd_7_50 (sk_l hs 0 (by decide)) (sk_k0 hs) rfl (sk_r0_5 hs) ?_
    refine rn_getI dX7_change_13 fd_7_149 (sk_l hs 12 (by decide)) (sk_k12 hs) rfl ?_
    refine rn_top (y := nI ((jC w h M P).length)) (hK.2.2.2.2.2.2.1) ?_
    refine rn_icmp_ltN (tgt := 21) dX7_change_16 (by decide) (by omega) (by omega) (fun c_16 => ?_) (fun c_16 => ?_)
    · refine rn_aload_n dX7_change_21 rfl rfl ?_
      refine rn_getR (r := 12) dX7_change_22 fd_7_50 (sk_l hs 0 (by decide)) (sk_k0 hs) rfl (sk_r0_5 hs) ?_
      refine rn_iload_n dX7_change_25 rfl rfl ?_
      refine rn_callVq (st := []) dX7_change_26 cf_7_150 (c_X1_columnOf hs hK.2.2.2.2.2.2.1 (by omega) hy) (by decide) (sk_l hs 12 (by decide)) (sk_k12 hs) rfl rfl (Nat.le_of_ble_eq_true rfl) ?_
      refine rn_top (y := nI i) (by rw [(hK.2.2.2.2.2.2.2 y hy).1, hp]) ?_
      refine rn_istore_n (ls' := [some (.ref 0), some (.int (nI y)), some (.int t), some (.int (nI i)), none]) dX7_change_29 rfl (by decide) rfl rfl ?_
      refine rn_aload_n dX7_change_30 rfl rfl ?_
      refine rn_getR (r := 12) dX7_change_31 fd_7_50 (sk_l hs 0 (by decide)) (sk_k0 hs) rfl (sk_r0_5 hs) ?_
      refine rn_iload_n dX7_change_34 rfl rfl ?_
      refine rn_callVq (st := []) dX7_change_35 cf_7_153 (c_X1_rowOf hs hK.2.2.2.2.2.2.1 (by omega) hy) (by decide) (sk_l hs 12 (by decide)) (sk_k12 hs) rfl rfl (Nat.le_of_ble_eq_true rfl) ?_
      refine rn_top (y := nI j) (by rw [(hK.2.2.2.2.2.2.2 y hy).2, hp]) ?_
      refine rn_istore (ls' := [some (.ref 0), some (.int (nI y)), some (.int t), some (.int (nI i)), some (.int (nI j))]) dX7_change_38 (by decide) rfl rfl ?_
      refine rn_iload_n dX7_change_40 rfl rfl ?_
      refine rn_tableOut (tgt := 87) dX7_change_41 (tb_out2 q0 q1 q2) (by decide) ?_
      refine rn_iconst (v := (-1)) dX7_change_87 (by decide) ?_
      refine rn_ireturn dX7_change_88 rfl (vp_nar_int _) ?_
      exact ⟨rfl, rfl, hK.kw hX⟩
    · omega
  · rw [show vChg w h M P k t = -1 by unfold vChg; rw [if_neg hin0]]
    refine am_mt ⟨by decide +kernel, rfl⟩ (Nat.le_of_ble_eq_true rfl) rfl ?_
    refine rn_aload_n dX7_change_0 rfl rfl ?_
    refine rn_callV0 (st := []) dX7_change_1 cf_7_146 (c_X7_knowJoin hs w1 w8 h1 h8 hok hokP hX hPX hJ) (by decide) (sk_l hs 0 (by decide)) (sk_k0 hs) rfl rfl (Nat.le_of_ble_eq_true rfl) (fun r1 S1 I1 hq => ?_)
    obtain ⟨rfl, rfl, hK⟩ := hq
    have hD1 := hK.dr (by decide) hX.1
    refine rn_iload_n dX7_change_4 rfl rfl ?_
    refine rn_if_lt (tgt := 19) dX7_change_5 (by decide) (fun c_5 => ?_) (fun c_5 => ?_)
    · refine rn_iconst (v := (-1)) dX7_change_19 (by decide) ?_
      refine rn_ireturn dX7_change_20 rfl (vp_nar_int _) ?_
      exact ⟨rfl, rfl, hK.kw hX⟩
    · refine rn_iload_n dX7_change_8 rfl rfl ?_
      refine rn_aload_n dX7_change_9 rfl rfl ?_
      refine rn_getR (r := 12) dX7_change_10 fd_7_50 (sk_l hs 0 (by decide)) (sk_k0 hs) rfl (sk_r0_5 hs) ?_
      refine rn_getI dX7_change_13 fd_7_149 (sk_l hs 12 (by decide)) (sk_k12 hs) rfl ?_
      refine rn_top (y := nI ((jC w h M P).length)) (hK.2.2.2.2.2.2.1) ?_
      refine rn_icmp_lt (tgt := 21) dX7_change_16 (by decide) (fun c_16 => ?_) (fun c_16 => ?_)
      · exact absurd ⟨by rw [z_lt, z_0] at c_5; omega, by rw [z_lt, z_nI (by omega)] at c_16; omega⟩ hin0
      · refine rn_iconst (v := (-1)) dX7_change_19 (by decide) ?_
        refine rn_ireturn dX7_change_20 rfl (vp_nar_int _) ?_
        exact ⟨rfl, rfl, hK.kw hX⟩
/-- the class after a join -/
def KU (w h : Nat) (M' : Nat → Nat → Nat) (I I' : am_I) : Prop := (∀ b, b ≠ 0 → b ≠ 2 → (b < 7 ∨ 15 < b) → I' b = I b) ∧ (∀ k, k ≠ 9 → k ≠ 10 → I' 0 k = I 0 k) ∧ isDr I' 1 2 w h M' ∧ I' 0 9 = nI 0 ∧ I' 0 10 = nI 0
set_option maxHeartbeats 1000000 in
set_option maxRecDepth 100000 in
theorem c_X7_join {S : am_S} (hs : sk S) {I : am_I} {w h : Nat} {M P : Nat → Nat → Nat} (w1 : 1 ≤ w) (w8 : w ≤ 8) (h1 : 1 ≤ h) (h8 : h ≤ 8) (hok : okM w h M) (hokP : okM w h P) (hX : XL w h M I) (hPX : isDr I 1 5 w h P) (hJ : XJ w h M P I) : am_Mt 6 Y_X7_join (0, 0) [.ref 0] S I (fun r S' I' => r = some (.int (nI (jC w h M P).length)) ∧ S' = S ∧ KU w h (jM w h M P) I I') := by
  have hjl := jC_len (M := M) (P := P) w8 h8
  refine am_mt ⟨by decide +kernel, rfl⟩ (Nat.le_of_ble_eq_true rfl) rfl ?_
  refine rn_aload_n dX7_join_0 rfl rfl ?_
  refine rn_callV0 (st := []) dX7_join_1 cf_7_146 (c_X7_knowJoin hs w1 w8 h1 h8 hok hokP hX hPX hJ) (by decide) (sk_l hs 0 (by decide)) (sk_k0 hs) rfl rfl (Nat.le_of_ble_eq_true rfl) (fun r1 S1 I1 hq => ?_)
  obtain ⟨rfl, rfl, hK⟩ := hq
  have hD1 := hK.dr (by decide) hX.1
  refine rn_aload_n dX7_join_4 rfl rfl ?_
  refine rn_getR (r := 12) dX7_join_5 fd_7_50 (sk_l hs 0 (by decide)) (sk_k0 hs) rfl (sk_r0_5 hs) ?_
  refine rn_getI dX7_join_8 fd_7_149 (sk_l hs 12 (by decide)) (sk_k12 hs) rfl ?_
  refine rn_top (y := nI ((jC w h M P).length)) (hK.2.2.2.2.2.2.1) ?_
  refine rn_istore_n (ls' := [some (.ref 0), some (.int (nI ((jC w h M P).length))), none, none, none]) dX7_join_11 rfl (by decide) rfl rfl ?_
  refine rn_iconst (v := nI 0) dX7_join_12 (by decide) ?_
  refine rn_istore_n (ls' := [some (.ref 0), some (.int (nI ((jC w h M P).length))), some (.int (nI 0)), none, none]) dX7_join_13 rfl (by decide) rfl rfl ?_
  have LP : ∀ y, y ≤ (jC w h M P).length → ∀ I2 : am_I, (∀ b, b ≠ 2 → I2 b = I1 b) → isDr I2 1 2 w h (List.foldl jLo M ((jC w h M P).take y)) → am_Rn 6 Y_X7_join (0, 0) 14 [some (.ref 0), some (.int (nI ((jC w h M P).length))), some (.int (nI y)), none, none] [] S1 I2 (fun r S' I' => r = some (.int (nI (jC w h M P).length)) ∧ S' = S1 ∧ KU w h (jM w h M P) I I') := by
    refine am_loop _ (fun y hy9 ih => ?_)
    intro I2 hF2 hD2
    have hJ2 := hK.2.2.2.2.2.2.moved (hF2 12 (by decide)) (hF2 13 (by decide)) (hF2 14 (by decide))
    refine rn_iload_n dX7_join_14 rfl rfl ?_
    refine rn_iload_n dX7_join_15 rfl rfl ?_
    refine rn_icmp_geN (tgt := 67) dX7_join_16 (by decide) (by omega) (by omega) (fun c_16 => ?_) (fun c_16 => ?_)
    · refine rn_aload_n dX7_join_67 rfl rfl ?_
      refine rn_callVq (st := []) dX7_join_68 cf_7_94 (c_X7_forgetLines hs) (by decide) (sk_l hs 0 (by decide)) (sk_k0 hs) rfl rfl (Nat.le_of_ble_eq_true rfl) ?_
      refine rn_iload_n dX7_join_71 rfl rfl ?_
      refine rn_ireturn dX7_join_72 rfl (vp_nar_int _) ?_
      rw [show y = (jC w h M P).length by omega, List.take_length] at hD2
      refine ⟨rfl, rfl, fun b b0 b2 b7 => ?_, fun k k9 k10 => ?_, ?_, ?_, ?_⟩
      · rw [am_up_a _ _ b0, am_up_a _ _ b0, hF2 b b2]; exact hK.1 b b0 b7
      · rw [am_up_k _ _ k10, am_up_k _ _ k9, hF2 0 (by decide)]; exact hK.2.1 k k9 k10
      · exact hD2.kept (by rw [am_up_a _ _ (by decide), am_up_a _ _ (by decide)]) (by rw [am_up_a _ _ (by decide), am_up_a _ _ (by decide)])
      · rw [am_up_k _ _ (by decide), am_up_at]
      · rw [am_up_at]
    · have hy : y < (jC w h M P).length := c_16
      obtain ⟨⟨i, j⟩, hp⟩ : ∃ p, (jC w h M P).getD y (0, 0) = p := ⟨_, rfl⟩
      have hin : nInner w h i j = true := by have h9 := jC_in (getD_mem hy); rw [hp] at h9; exact h9
      have hb := nIn.mp hin
      have hm2 := okM_jf (w := w) (h := h) ((jC w h M P).take y) hok i j hin
      refine rn_aload_n dX7_join_19 rfl rfl ?_
      refine rn_getR (r := 12) dX7_join_20 fd_7_50 (sk_l hs 0 (by decide)) (sk_k0 hs) rfl (sk_r0_5 hs) ?_
      refine rn_iload_n dX7_join_23 rfl rfl ?_
      refine rn_callVq (st := []) dX7_join_24 cf_7_150 (c_X1_columnOf hs hJ2.1 (by omega) hy) (by decide) (sk_l hs 12 (by decide)) (sk_k12 hs) rfl rfl (Nat.le_of_ble_eq_true rfl) ?_
      refine rn_top (y := nI i) (by rw [(hJ2.2 y hy).1, hp]) ?_
      refine rn_istore_n (ls' := [some (.ref 0), some (.int (nI ((jC w h M P).length))), some (.int (nI y)), some (.int (nI i)), none]) dX7_join_27 rfl (by decide) rfl rfl ?_
      refine rn_aload_n dX7_join_28 rfl rfl ?_
      refine rn_getR (r := 12) dX7_join_29 fd_7_50 (sk_l hs 0 (by decide)) (sk_k0 hs) rfl (sk_r0_5 hs) ?_
      refine rn_iload_n dX7_join_32 rfl rfl ?_
      refine rn_callVq (st := []) dX7_join_33 cf_7_153 (c_X1_rowOf hs hJ2.1 (by omega) hy) (by decide) (sk_l hs 12 (by decide)) (sk_k12 hs) rfl rfl (Nat.le_of_ble_eq_true rfl) ?_
      refine rn_top (y := nI j) (by rw [(hJ2.2 y hy).2, hp]) ?_
      refine rn_istore (ls' := [some (.ref 0), some (.int (nI ((jC w h M P).length))), some (.int (nI y)), some (.int (nI i)), some (.int (nI j))]) dX7_join_36 (by decide) rfl rfl ?_
      refine rn_aload_n dX7_join_38 rfl rfl ?_
      refine rn_getR (r := 1) dX7_join_39 fd_7_10 (sk_l hs 0 (by decide)) (sk_k0 hs) rfl (sk_r0_0 hs) ?_
      refine rn_iload_n dX7_join_42 rfl rfl ?_
      refine rn_iload dX7_join_43 rfl ?_
      refine rn_aload_n dX7_join_45 rfl rfl ?_
      refine rn_getR (r := 1) dX7_join_46 fd_7_10 (sk_l hs 0 (by decide)) (sk_k0 hs) rfl (sk_r0_0 hs) ?_
      refine rn_iload_n dX7_join_49 rfl rfl ?_
      refine rn_iload dX7_join_50 rfl ?_
      refine rn_callVq (st := [.int (nI j), .int (nI i), .ref 1]) dX7_join_52 cf_7_97 (c_X0_mAt (sk_d1 hs) hD2 w8 h8 (by omega) (by omega)) (by decide) (sk_l hs 1 (by decide)) (sk_k1 hs) rfl rfl (Nat.le_of_ble_eq_true rfl) ?_
      refine rn_top (y := nI ((List.foldl jLo M ((jC w h M P).take y)) i j)) (by rw [show gv w h (List.foldl jLo M ((jC w h M P).take y)) i j = (List.foldl jLo M ((jC w h M P).take y)) i j from if_pos hin]) ?_
      refine rn_callSq (st := [.int (nI j), .int (nI i), .ref 1]) dX7_join_55 cf_7_156 (c_X7_lowerOther _ _ _) (by decide) rfl rfl (Nat.le_of_ble_eq_true rfl) ?_
      refine rn_top (y := nI (lo ((List.foldl jLo M ((jC w h M P).take y)) i j))) (lo_n hm2) ?_
      refine rn_callVq (st := []) dX7_join_58 cf_7_90 (c_X0_put (sk_d1 hs) hD2.1 hD2.2.1 w8 h8 hin _) (by decide) (sk_l hs 1 (by decide)) (sk_k1 hs) rfl rfl (Nat.le_of_ble_eq_true rfl) ?_
      refine rn_iinc (v := nI (y + 1)) (ls' := [some (.ref 0), some (.int (nI ((jC w h M P).length))), some (.int (nI (y + 1))), some (.int (nI i)), some (.int (nI j))]) dX7_join_61 rfl (nI_add _ 1) (by decide) rfl rfl ?_
      refine rn_goto (tgt := 14) dX7_join_64 (by decide) ?_
      refine rn_ls (ls' := [some (.ref 0), some (.int (nI ((jC w h M P).length))), some (.int (nI (y + 1))), none, none]) rfl (fun k x h => by rcases k with _ | _ | _ | _ | _ | k <;> first | exact h | (simp at h)) ?_
      refine ih c_16 _ (fun b hb => by rw [am_up_a _ _ hb]; exact hF2 b hb) ?_
      rw [take_s hy, List.foldl_append, hp]
      exact isDr_up (by decide) w8 h8 hD2 hin _
  exact LP 0 (by omega) I1 (fun _ _ => rfl) hD1
