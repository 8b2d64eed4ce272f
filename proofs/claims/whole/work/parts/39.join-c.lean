def isPM (w h : Nat) (P : Nat → Nat → Nat) (I : am_I) : Prop := ∀ i j, i < 17 → j < 17 → I 48 (289 * 0 + 17 * j + i) = nI (gv w h P i j)
theorem i32_ss (a b c : Int32) : a - b - c = a - (b + c) := by
  rw [Int32.sub_eq_add_neg, Int32.sub_eq_add_neg, Int32.sub_eq_add_neg, Int32.neg_add, Int32.sub_eq_add_neg, Int32.add_assoc]
/-- the reference while it finds -/
def CM (lc : Nat) (I1 : am_I) (σ : (Nat → Nat → Prop) × List (Nat × Nat)) (I : am_I) : Prop := (∀ b, b ≠ 44 → b ≠ 53 → b ≠ 54 → I b = I1 b) ∧ (∀ k, k ≠ 10 → k ≠ 11 → I 44 k = I1 44 k) ∧ (∃ hp ρ δ, (∀ x, x < lc → I 53 x = nI (hp x)) ∧ HR σ.1 hp ρ δ lc) ∧ I 44 10 = nI σ.2.length ∧ I 44 11 = nI lc - nI σ.2.length ∧ ∀ k, k < σ.2.length → I 54 k = nI (17 * (σ.2.getD k (0, 0)).2 + (σ.2.getD k (0, 0)).1)
theorem CM.step {w h i j lc : Nat} {M P : Nat → Nat → Nat} {I1 I : am_I} {σ : (Nat → Nat → Prop) × List (Nat × Nat)} (hC : CM lc I1 σ I) {hp ρ δ : Nat → Nat} (hh : ∀ x, x < lc → I 53 x = nI (hp x)) (hHR : HR σ.1 hp ρ δ lc) (hA : lnum w h M (ulS w i j) < lc) (hB : lnum w h M (st1 w M i j) < lc) (hP : P i j = 0) (hq : ρ (lnum w h M (ulS w i j)) ≠ ρ (lnum w h M (st1 w M i j))) :
    CM lc I1 (jStep w h M P σ (i, j)) (am_up (am_up (am_up (am_up I 53 (ρ (lnum w h M (ulS w i j))) (nI (ρ (lnum w h M (st1 w M i j))))) 44 11 (nI lc - nI σ.2.length - nI 1)) 54 σ.2.length (nI (289 * 0 + 17 * j + i))) 44 10 (nI (σ.2.length + 1))) := by
  rw [jStep_t hP (fun e => hq ((hHR.2 _ _ hA hB).mp e))]
  refine ⟨fun b b1 b2 b3 => ?_, fun k k1 k2 => ?_, ⟨_, _, _, fun x hx => ?_, HR_mg hHR hA hB hq⟩, ?_, ?_, fun k hk => ?_⟩
  · rw [am_up_a _ _ b1, am_up_a _ _ b3, am_up_a _ _ b1, am_up_a _ _ b2]; exact hC.1 b b1 b2 b3
  · rw [am_up_k _ _ k1, am_up_a _ _ (by decide), am_up_k _ _ k2, am_up_a _ _ (by decide)]; exact hC.2.1 k k1 k2
  · rw [am_up_a _ _ (by decide), am_up_a _ _ (by decide), am_up_a _ _ (by decide)]
    show _ = nI (if x = ρ (lnum w h M (ulS w i j)) then ρ (lnum w h M (st1 w M i j)) else hp x)
    by_cases q : x = ρ (lnum w h M (ulS w i j))
    · rw [if_pos q, q, am_up_at]
    · rw [if_neg q, am_up_k _ _ q]; exact hh x hx
  · rw [am_up_at]; simp
  · rw [am_up_k _ _ (by decide), am_up_a _ _ (by decide), am_up_at, i32_ss, nI_add]; simp
  · simp only [List.length_append, List.length_singleton] at hk
    by_cases hkn : k = σ.2.length
    · subst hkn
      rw [snoc_at, am_up_a _ _ (by decide), am_up_at, Nat.mul_zero, Nat.zero_add]
    · rw [snoc_lt (by omega), am_up_a _ _ (by decide), am_up_k _ _ hkn, am_up_a _ _ (by decide), am_up_a _ _ (by decide)]
      exact hC.2.2.2.2.2 k (by omega)
theorem CM.gr {lc : Nat} {I1 I : am_I} {σ : (Nat → Nat → Prop) × List (Nat × Nat)} {g w h : Nat} {M : Nat → Nat → Nat} (hC : CM lc I1 σ I) (hI : isGr I1 g w h M) : isGr I g w h M := ⟨by rw [hC.1 45 (by decide) (by decide) (by decide)]; exact hI.1, by rw [hC.1 46 (by decide) (by decide) (by decide)]; exact hI.2.1, fun i j hi hj => by rw [hC.1 47 (by decide) (by decide) (by decide)]; exact hI.2.2 i j hi hj⟩
theorem CM.lx {lc : Nat} {I1 I : am_I} {σ : (Nat → Nat → Prop) × List (Nat × Nat)} {w h : Nat} {M : Nat → Nat → Nat} (hC : CM lc I1 σ I) (hd : LX w h M I1 49 50 51 52) : LX w h M I 49 50 51 52 := hd.moved (hC.1 49 (by decide) (by decide) (by decide)) (hC.1 50 (by decide) (by decide) (by decide)) (hC.1 51 (by decide) (by decide) (by decide)) (hC.1 52 (by decide) (by decide) (by decide))
theorem CM.pm {lc : Nat} {I1 I : am_I} {σ : (Nat → Nat → Prop) × List (Nat × Nat)} {w h : Nat} {P : Nat → Nat → Nat} (hC : CM lc I1 σ I) (hd : isPM w h P I1) : isPM w h P I := fun i j hi hj => by rw [hC.1 48 (by decide) (by decide) (by decide)]; exact hd i j hi hj
set_option maxHeartbeats 1000000 in
set_option maxRecDepth 100000 in
theorem c_X8_rootOf {S : am_S} (hs : sk S) {I : am_I} {R : Nat → Nat → Prop} {hp ρ δ : Nat → Nat} {n l : Nat} (hn : n ≤ 256) (hh : ∀ x, x < n → I 53 x = nI (hp x)) (hHR : HR R hp ρ δ n) (hl : l < n) : am_Mt 0 Y_X8_rootOf (0, 0) [.ref 44, .int (nI l)] S I (am_q (some (.int (nI (ρ l)))) S I) := by
  have LP : ∀ m r, δ r = m → r < n → ρ r = ρ l → am_Rn 0 Y_X8_rootOf (0, 0) 2 [some (.ref 44), some (.int (nI l)), some (.int (nI r))] [] S I (am_q (some (.int (nI (ρ l)))) S I) := by
    intro m
    induction m using Nat.strongRecOn with
    | ind m ih =>
    intro r hm hr hρ
    subst hm
    have hx := hHR.1 r hr
    refine rn_aload_n dX8_rootOf_2 rfl rfl ?_
    refine rn_getR (r := 53) dX8_rootOf_3 fd_8_36 (sk_l hs 44 (by decide)) (sk_k44 hs) rfl (sk_r44_9 hs) ?_
    refine rn_iload_n dX8_rootOf_6 rfl rfl ?_
    refine rn_ialoadN dX8_rootOf_7 (sk_l hs 53 (by decide)) (sk_k53 hs) (by omega) (by omega) ?_
    refine rn_top (y := nI (hp r)) (hh r hr) ?_
    refine rn_iload_n dX8_rootOf_8 rfl rfl ?_
    refine rn_icmp_eqN (tgt := 22) dX8_rootOf_9 (by decide) (by omega) (by omega) (fun c_9 => ?_) (fun c_9 => ?_)
    · refine rn_iload_n dX8_rootOf_22 rfl rfl ?_
      refine rn_ireturn dX8_rootOf_23 rfl (vp_nar_int _) ?_
      exact ⟨by rw [← hρ, hx.2.2.2.2.2 c_9], rfl, rfl⟩
    · refine rn_aload_n dX8_rootOf_12 rfl rfl ?_
      refine rn_getR (r := 53) dX8_rootOf_13 fd_8_36 (sk_l hs 44 (by decide)) (sk_k44 hs) rfl (sk_r44_9 hs) ?_
      refine rn_iload_n dX8_rootOf_16 rfl rfl ?_
      refine rn_ialoadN dX8_rootOf_17 (sk_l hs 53 (by decide)) (sk_k53 hs) (by omega) (by omega) ?_
      refine rn_top (y := nI (hp r)) (hh r hr) ?_
      refine rn_istore_n (ls' := [some (.ref 44), some (.int (nI l)), some (.int (nI (hp r)))]) dX8_rootOf_18 rfl (by decide) rfl rfl ?_
      refine rn_goto (tgt := 2) dX8_rootOf_19 (by decide) ?_
      exact ih (δ (hp r)) (hx.2.2.2.2.1 c_9) (hp r) rfl hx.1 (by rw [hx.2.2.2.1]; exact hρ)
  refine am_mt ⟨by decide +kernel, rfl⟩ (Nat.le_of_ble_eq_true rfl) rfl ?_
  refine rn_iload_n dX8_rootOf_0 rfl rfl ?_
  refine rn_istore_n (ls' := [some (.ref 44), some (.int (nI l)), some (.int (nI l))]) dX8_rootOf_1 rfl (by decide) rfl rfl ?_
  exact LP (δ l) l rfl hl rfl
theorem va_up_o (I : am_I) {r b : Nat} (f : Nat → Int32) (hb : b ≠ r) : va_up I r f b = I b := by simp [va_up, hb]
set_option maxHeartbeats 1000000 in
set_option maxRecDepth 100000 in
theorem c_X8_find {S : am_S} (hs : sk S) {I0 : am_I} {w h : Nat} {M P : Nat → Nat → Nat} (w1 : 1 ≤ w) (w8 : w ≤ 8) (h1 : 1 ≤ h) (h8 : h ≤ 8) (hok : okM w h M) (hokP : okM w h P) (hG : isGr I0 0 w h M) (hPM : isPM w h P I0) : am_Mt 4 Y_X8_find (0, 0) [.ref 44] S I0 (fun r S' I' => r = none ∧ S' = S ∧ ∃ I1, KM I0 I1 ∧ CM (lcnt w h M) I1 (jEnd w h M P) I') := by
  have h256 := sq_bound w8 h8
  have hcn := lcnt_le (h := h) (M := M) w1
  refine am_mt ⟨by decide +kernel, rfl⟩ (Nat.le_of_ble_eq_true rfl) rfl ?_
  refine rn_aload_n dX8_find_0 rfl rfl ?_
  refine rn_callV0 (st := []) dX8_find_1 cf_8_92 (c_X8_walkAll hs w1 w8 h1 h8 hok hG) (by decide) (sk_l hs 44 (by decide)) (sk_k44 hs) rfl rfl (Nat.le_of_ble_eq_true rfl) (fun r1 S1 I1 hq => ?_)
  obtain ⟨rfl, rfl, hF, hE⟩ := hq
  have hLX := LX_of w1 hF.1 hE
  have hKM := FB_km hF
  have hn1 : I1 44 4 = nI (lcnt w h M) := hF.2.1
  refine rn_iconst (v := nI 0) dX8_find_4 (by decide) ?_
  refine rn_istore_n (ls' := [some (.ref 44), some (.int (nI 0)), none, none, none]) dX8_find_5 rfl (by decide) rfl rfl ?_
  have hG0 := hKM.gr hG
  have hPM0 : isPM w h P I1 := fun i j hi hj => by rw [hKM.1 48 (by decide) (by decide) (by decide) (by decide) (by decide)]; exact hPM i j hi hj
  have hL1 := hLX
  have hTe : jEnd w h M P = List.foldl (jStep w h M P) ((fun x y => x = y), []) (rowsP w h 1) := rfl
  have hn3 : (va_up I1 53 (idF (I1 53) (lcnt w h M))) 44 4 = nI (lcnt w h M) := by rw [va_up_o _ _ (by decide)]; exact hn1
  have CM0 : CM (lcnt w h M) I1 ((fun x y => x = y), []) (am_up (am_up (va_up I1 53 (idF (I1 53) (lcnt w h M))) 44 10 (nI 0)) 44 11 (nI (lcnt w h M))) := by
    refine ⟨fun b b2 b3 b4 => ?_, fun k k1 k2 => ?_, ⟨_, _, _, fun x hx => ?_, HR_0 _⟩, ?_, ?_, fun k hk => absurd hk (by simp)⟩
    · rw [am_up_a _ _ b2, am_up_a _ _ b2, va_up_o _ _ b3]
    · rw [am_up_k _ _ k2, am_up_k _ _ k1, va_up_o _ _ (by decide)]
    · simp [am_up, va_up, idF, hx]
    · simp [am_up, va_up]
    · rw [am_up_at, pk_sub (by simp)]; simp
  generalize jEnd w h M P = T at hTe ⊢
  have LJ : ∀ m j, 2 * h - j ≤ m → 1 ≤ j → j ≤ 2 * h → ∀ σ I, CM (lcnt w h M) I1 σ I → σ.2.length + (rowsP w h j).length ≤ 120 → T = List.foldl (jStep w h M P) σ (rowsP w h j) → am_Rn 4 Y_X8_find (0, 0) 42 [some (.ref 44), some (.int (nI j)), none, none, none] [] S1 I (fun r S' I' => r = none ∧ S' = S1 ∧ ∃ I1, KM I0 I1 ∧ CM (lcnt w h M) I1 T I') := by
    intro m
    induction m with
    | zero =>
      intro j hm hj1 hj2 σ I hC hlen hT
      have hG1 := hC.gr hG0
      have hPM1 := hC.pm hPM0
      refine rn_iload_n dX8_find_42 rfl rfl ?_
      refine rn_iconst (v := nI 2) dX8_find_43 (by decide) ?_
      refine rn_aload_n dX8_find_44 rfl rfl ?_
      refine rn_getR (r := 46) dX8_find_45 fd_8_13 (sk_l hs 44 (by decide)) (sk_k44 hs) rfl (sk_r44_1 hs) ?_
      refine rn_iconst (v := nI 0) dX8_find_48 (by decide) ?_
      refine rn_ialoadN dX8_find_49 (sk_l hs 46 (by decide)) (sk_k46 hs) (by omega) (by omega) ?_
      refine rn_top (y := nI h) (hG1.2.1) ?_
      refine rn_imul dX8_find_50 ?_
      refine rn_top (pk_mul _ _) ?_
      refine rn_icmp_geN (tgt := 184) dX8_find_51 (by decide) (by omega) (by omega) (fun c_51 => ?_) (fun c_51 => ?_)
      · refine rn_return dX8_find_184 rfl ?_
        rw [rowsP_n (by omega), List.foldl_nil] at hT
        rw [hT]
        exact ⟨rfl, rfl, I1, hKM, hC⟩
      · omega
    | succ m ihj =>
      intro j hm hj1 hj2 σ I hC hlen hT
      have LI : ∀ n i, 2 * w - i ≤ n → 1 ≤ i → i ≤ 2 * w → j < 2 * h → ∀ σ I, CM (lcnt w h M) I1 σ I → σ.2.length + ((rowP w j (i + (i + j + 1) % 2)).length + (rowsP w h (j + 1)).length) ≤ 120 → T = List.foldl (jStep w h M P) (List.foldl (jStep w h M P) σ (rowP w j (i + (i + j + 1) % 2))) (rowsP w h (j + 1)) → am_Rn 4 Y_X8_find (0, 0) 56 [some (.ref 44), some (.int (nI j)), some (.int (nI i)), none, none] [] S1 I (fun r S' I' => r = none ∧ S' = S1 ∧ ∃ I1, KM I0 I1 ∧ CM (lcnt w h M) I1 T I') := by
        intro n
        induction n with
        | zero =>
          intro i hm2 hi1 hi2 hjh σ I hC hlen hT
          have K : ∀ σ I, CM (lcnt w h M) I1 σ I → σ.2.length + (rowsP w h (j + 1)).length ≤ 120 → T = List.foldl (jStep w h M P) σ (rowsP w h (j + 1)) → am_Rn 4 Y_X8_find (0, 0) 178 [some (.ref 44), some (.int (nI j)), none, none, none] [] S1 I (fun r S' I' => r = none ∧ S' = S1 ∧ ∃ I1, KM I0 I1 ∧ CM (lcnt w h M) I1 T I') := by
            intro σ I hC hlen hT
            have hG1 := hC.gr hG0
            have hPM1 := hC.pm hPM0
            refine rn_iinc (v := nI (j + 1)) (ls' := [some (.ref 44), some (.int (nI (j + 1))), none, none, none]) dX8_find_178 rfl (nI_add _ 1) (by decide) rfl rfl ?_
            refine rn_goto (tgt := 42) dX8_find_181 (by decide) ?_
            exact ihj (j + 1) (by omega) (by omega) (by omega) σ I hC (by omega) hT
          have hG1 := hC.gr hG0
          have hPM1 := hC.pm hPM0
          refine rn_iload_n dX8_find_56 rfl rfl ?_
          refine rn_iconst (v := nI 2) dX8_find_57 (by decide) ?_
          refine rn_aload_n dX8_find_58 rfl rfl ?_
          refine rn_getR (r := 45) dX8_find_59 fd_8_7 (sk_l hs 44 (by decide)) (sk_k44 hs) rfl (sk_r44_0 hs) ?_
          refine rn_iconst (v := nI 0) dX8_find_62 (by decide) ?_
          refine rn_ialoadN dX8_find_63 (sk_l hs 45 (by decide)) (sk_k45 hs) (by omega) (by omega) ?_
          refine rn_top (y := nI w) (hG1.1) ?_
          refine rn_imul dX8_find_64 ?_
          refine rn_top (pk_mul _ _) ?_
          refine rn_icmp_geN (tgt := 178) dX8_find_65 (by decide) (by omega) (by omega) (fun c_65 => ?_) (fun c_65 => ?_)
          · rw [rowP_n (by omega), List.foldl_nil] at hT
            rw [rowP_n (by omega), List.length_nil] at hlen
            refine rn_ls (ls' := [some (.ref 44), some (.int (nI j)), none, none, none]) rfl (fun k x h => by rcases k with _ | _ | _ | _ | _ | k <;> first | exact h | (simp at h)) ?_
            exact K σ I hC (by omega) hT
          · omega
        | succ n ih =>
          intro i hm2 hi1 hi2 hjh σ I hC hlen hT
          have K : ∀ σ I, CM (lcnt w h M) I1 σ I → σ.2.length + (rowsP w h (j + 1)).length ≤ 120 → T = List.foldl (jStep w h M P) σ (rowsP w h (j + 1)) → am_Rn 4 Y_X8_find (0, 0) 178 [some (.ref 44), some (.int (nI j)), none, none, none] [] S1 I (fun r S' I' => r = none ∧ S' = S1 ∧ ∃ I1, KM I0 I1 ∧ CM (lcnt w h M) I1 T I') := by
            intro σ I hC hlen hT
            have hG1 := hC.gr hG0
            have hPM1 := hC.pm hPM0
            refine rn_iinc (v := nI (j + 1)) (ls' := [some (.ref 44), some (.int (nI (j + 1))), none, none, none]) dX8_find_178 rfl (nI_add _ 1) (by decide) rfl rfl ?_
            refine rn_goto (tgt := 42) dX8_find_181 (by decide) ?_
            exact ihj (j + 1) (by omega) (by omega) (by omega) σ I hC (by omega) hT
          have hG1 := hC.gr hG0
          have hPM1 := hC.pm hPM0
          refine rn_iload_n dX8_find_56 rfl rfl ?_
          refine rn_iconst (v := nI 2) dX8_find_57 (by decide) ?_
          refine rn_aload_n dX8_find_58 rfl rfl ?_
          refine rn_getR (r := 45) dX8_find_59 fd_8_7 (sk_l hs 44 (by decide)) (sk_k44 hs) rfl (sk_r44_0 hs) ?_
          refine rn_iconst (v := nI 0) dX8_find_62 (by decide) ?_
          refine rn_ialoadN dX8_find_63 (sk_l hs 45 (by decide)) (sk_k45 hs) (by omega) (by omega) ?_
          refine rn_top (y := nI w) (hG1.1) ?_
          refine rn_imul dX8_find_64 ?_
          refine rn_top (pk_mul _ _) ?_
          refine rn_icmp_geN (tgt := 178) dX8_find_65 (by decide) (by omega) (by omega) (fun c_65 => ?_) (fun c_65 => ?_)
          · rw [rowP_n (by omega), List.foldl_nil] at hT
            rw [rowP_n (by omega), List.length_nil] at hlen
            refine rn_ls (ls' := [some (.ref 44), some (.int (nI j)), none, none, none]) rfl (fun k x h => by rcases k with _ | _ | _ | _ | _ | k <;> first | exact h | (simp at h)) ?_
            exact K σ I hC (by omega) hT
          · refine rn_aload_n dX8_find_68 rfl rfl ?_
            refine rn_iconst (v := nI 0) dX8_find_69 (by decide) ?_
            refine rn_iload_n dX8_find_70 rfl rfl ?_
            refine rn_iload_n dX8_find_71 rfl rfl ?_
            refine rn_callVq (st := []) dX8_find_72 cf_8_74 (c_X8_isInner hs (by decide) hG1.1 hG1.2.1 w1 w8 h1 h8 _ _) (by decide) (sk_l hs 44 (by decide)) (sk_k44 hs) rfl rfl (Nat.le_of_ble_eq_true rfl) ?_
            refine rn_if_eqB (tgt := 172) dX8_find_75 (by decide) (fun c_75 => ?_) (fun c_75 => ?_)
            · refine rn_iinc (v := nI (i + 1)) (ls' := [some (.ref 44), some (.int (nI j)), some (.int (nI (i + 1))), none, none]) dX8_find_172 rfl (nI_add _ 1) (by decide) rfl rfl ?_
              refine rn_goto (tgt := 56) dX8_find_175 (by decide) ?_
              refine rn_ls (ls' := [some (.ref 44), some (.int (nI j)), some (.int (nI (i + 1))), none, none]) rfl (fun k x h => by rcases k with _ | _ | _ | _ | _ | k <;> first | exact h | (simp at h)) ?_
              first
              | (rw [jStep_f (Or.inl c_89)] at hT; exact ih (i + 1) (by omega) (by omega) (by omega) hjh _ _ hC (by rw [show i + 1 + (i + 1 + j + 1) % 2 = i + 2 by omega]; omega) (by rw [show i + 1 + (i + 1 + j + 1) % 2 = i + 2 by omega]; exact hT))
              | (have hpar : ¬ nInner w h i j = true := (by rw [← pInner_nI (by omega) (by omega), c_75]; decide); have hpar2 : (i + j) % 2 = 0 := (Decidable.byContradiction (fun q => hpar (nIn.mpr (by omega)))); exact ih (i + 1) (by omega) (by omega) (by omega) hjh _ _ hC (by rw [show i + 1 + (i + 1 + j + 1) % 2 = i + (i + j + 1) % 2 by omega]; omega) (by rw [show i + 1 + (i + 1 + j + 1) % 2 = i + (i + j + 1) % 2 by omega]; exact hT))
            · have hin : nInner w h i j = true := by rw [← pInner_nI (by omega) (by omega)]; exact c_75
              have hb := nIn.mp hin
              rw [show i + (i + j + 1) % 2 = i by omega, rowP_c (by omega), List.foldl_cons] at hT
              rw [show i + (i + j + 1) % 2 = i by omega, rowP_c (by omega), List.length_cons] at hlen
              have hp2 := hokP i j hin
              have hu := ul_b hin
              have hs1 : st1 w M i j < 4 * w * h := by unfold st1; split <;> omega
              have hA9 := lnum_lt (M := M) w1 (show ulS w i j < 4 * w * h by omega)
              have hB9 := lnum_lt (M := M) w1 hs1
              refine rn_aload_n dX8_find_78 rfl rfl ?_
              refine rn_getR (r := 48) dX8_find_79 fd_8_20 (sk_l hs 44 (by decide)) (sk_k44 hs) rfl (sk_r44_3 hs) ?_
              refine rn_iconst (v := nI 0) dX8_find_82 (by decide) ?_
              refine rn_iload_n dX8_find_83 rfl rfl ?_
              refine rn_iload_n dX8_find_84 rfl rfl ?_
              refine rn_callSq (st := [.ref 48]) dX8_find_85 cf_8_77 (c_X8_cell _ _ _ _ _) (by decide) rfl rfl (Nat.le_of_ble_eq_true rfl) ?_
              refine rn_baloadN dX8_find_88 (sk_l hs 48 (by decide)) (sk_k48 hs) (by decide) (by omega) (by omega) ?_
              refine rn_top (y := nI (P i j)) (by rw [hPM1 i j (by omega) (by omega), show gv w h P i j = P i j from if_pos hin]) ?_
              refine rn_if_eqN (tgt := 95) dX8_find_89 (by decide) (by omega) (fun c_89 => ?_) (fun c_89 => ?_)
              · obtain ⟨hp, ρ, δ, hh, hHR⟩ := hC.2.2.1
                have hra := (hHR.1 _ hA9).2.1
                have hrb := (hHR.1 _ hB9).2.1
                refine rn_aload_n dX8_find_95 rfl rfl ?_
                refine rn_aload_n dX8_find_96 rfl rfl ?_
                refine rn_iload_n dX8_find_97 rfl rfl ?_
                refine rn_iload_n dX8_find_98 rfl rfl ?_
                refine rn_iconst (v := nI 0) dX8_find_99 (by decide) ?_
                refine rn_callVq (st := [.ref 44]) dX8_find_100 cf_8_102 (c_X8_strand0 hs w8 h8 hok hG1 (hC.lx hL1) hin) (by decide) (sk_l hs 44 (by decide)) (sk_k44 hs) rfl rfl (Nat.le_of_ble_eq_true rfl) ?_
                refine rn_callVq (st := []) dX8_find_103 cf_8_111 (c_X8_rootOf hs (by omega) hh hHR hA9) (by decide) (sk_l hs 44 (by decide)) (sk_k44 hs) rfl rfl (Nat.le_of_ble_eq_true rfl) ?_
                refine rn_istore_n (ls' := [some (.ref 44), some (.int (nI j)), some (.int (nI i)), some (.int (nI (ρ (lnum w h M (ulS w i j))))), none]) dX8_find_106 rfl (by decide) rfl rfl ?_
                refine rn_aload_n dX8_find_107 rfl rfl ?_
                refine rn_aload_n dX8_find_108 rfl rfl ?_
                refine rn_iload_n dX8_find_109 rfl rfl ?_
                refine rn_iload_n dX8_find_110 rfl rfl ?_
                refine rn_iconst (v := nI 1) dX8_find_111 (by decide) ?_
                refine rn_callVq (st := [.ref 44]) dX8_find_112 cf_8_102 (c_X8_strand1 hs w8 h8 hok hG1 (hC.lx hL1) hin) (by decide) (sk_l hs 44 (by decide)) (sk_k44 hs) rfl rfl (Nat.le_of_ble_eq_true rfl) ?_
                refine rn_callVq (st := []) dX8_find_115 cf_8_111 (c_X8_rootOf hs (by omega) hh hHR hB9) (by decide) (sk_l hs 44 (by decide)) (sk_k44 hs) rfl rfl (Nat.le_of_ble_eq_true rfl) ?_
                refine rn_istore (ls' := [some (.ref 44), some (.int (nI j)), some (.int (nI i)), some (.int (nI (ρ (lnum w h M (ulS w i j))))), some (.int (nI (ρ (lnum w h M (st1 w M i j)))))]) dX8_find_118 (by decide) rfl rfl ?_
                refine rn_iload_n dX8_find_120 rfl rfl ?_
                refine rn_iload dX8_find_121 rfl ?_
                refine rn_icmp_neN (tgt := 129) dX8_find_123 (by decide) (by omega) (by omega) (fun c_123 => ?_) (fun c_123 => ?_)
                · refine rn_aload_n dX8_find_129 rfl rfl ?_
                  refine rn_getR (r := 53) dX8_find_130 fd_8_36 (sk_l hs 44 (by decide)) (sk_k44 hs) rfl (sk_r44_9 hs) ?_
                  refine rn_iload_n dX8_find_133 rfl rfl ?_
                  refine rn_iload dX8_find_134 rfl ?_
                  refine rn_iastoreN dX8_find_136 (sk_l hs 53 (by decide)) (sk_k53 hs) (by omega) (by omega) ?_
                  refine rn_aload_n dX8_find_137 rfl rfl ?_
                  refine rn_dup dX8_find_138 rfl ?_
                  refine rn_getI dX8_find_139 fd_8_108 (sk_l hs 44 (by decide)) (sk_k44 hs) rfl ?_
                  refine rn_top (y := nI (lcnt w h M) - nI σ.2.length) (by have h9 := hC.2.2.2.2.1; simp [am_up, va_up, h9]) ?_
                  refine rn_iconst (v := nI 1) dX8_find_142 (by decide) ?_
                  refine rn_isub dX8_find_143 ?_
                  refine rn_putI dX8_find_144 fd_8_108 (sk_l hs 44 (by decide)) (sk_k44 hs) rfl rfl (vp_nar_int _) rfl ?_
                  refine rn_aload_n dX8_find_147 rfl rfl ?_
                  refine rn_getR (r := 54) dX8_find_148 fd_8_39 (sk_l hs 44 (by decide)) (sk_k44 hs) rfl (sk_r44_12 hs) ?_
                  refine rn_aload_n dX8_find_151 rfl rfl ?_
                  refine rn_getI dX8_find_152 fd_8_105 (sk_l hs 44 (by decide)) (sk_k44 hs) rfl ?_
                  refine rn_top (y := nI σ.2.length) (by have h9 := hC.2.2.2.1; simp [am_up, va_up, h9]) ?_
                  refine rn_iconst (v := nI 0) dX8_find_155 (by decide) ?_
                  refine rn_iload_n dX8_find_156 rfl rfl ?_
                  refine rn_iload_n dX8_find_157 rfl rfl ?_
                  refine rn_callSq (st := [.int (nI σ.2.length), .ref 54]) dX8_find_158 cf_8_77 (c_X8_cell _ _ _ _ _) (by decide) rfl rfl (Nat.le_of_ble_eq_true rfl) ?_
                  refine rn_iastoreN dX8_find_161 (sk_l hs 54 (by decide)) (sk_k54 hs) (by omega) (by omega) ?_
                  refine rn_aload_n dX8_find_162 rfl rfl ?_
                  refine rn_dup dX8_find_163 rfl ?_
                  refine rn_getI dX8_find_164 fd_8_105 (sk_l hs 44 (by decide)) (sk_k44 hs) rfl ?_
                  refine rn_top (y := nI σ.2.length) (by have h9 := hC.2.2.2.1; simp [am_up, va_up, h9]) ?_
                  refine rn_iconst (v := nI 1) dX8_find_167 (by decide) ?_
                  refine rn_iadd dX8_find_168 ?_
                  refine rn_top (nI_add _ _) ?_
                  refine rn_putI dX8_find_169 fd_8_105 (sk_l hs 44 (by decide)) (sk_k44 hs) rfl rfl (vp_nar_int _) rfl ?_
                  refine rn_iinc (v := nI (i + 1)) (ls' := [some (.ref 44), some (.int (nI j)), some (.int (nI (i + 1))), some (.int (nI (ρ (lnum w h M (ulS w i j))))), some (.int (nI (ρ (lnum w h M (st1 w M i j)))))]) dX8_find_172 rfl (nI_add _ 1) (by decide) rfl rfl ?_
                  refine rn_goto (tgt := 56) dX8_find_175 (by decide) ?_
                  refine rn_ls (ls' := [some (.ref 44), some (.int (nI j)), some (.int (nI (i + 1))), none, none]) rfl (fun k x h => by rcases k with _ | _ | _ | _ | _ | k <;> first | exact h | (simp at h)) ?_
                  exact ih (i + 1) (by omega) (by omega) (by omega) hjh _ _ (hC.step (P := P) hh hHR hA9 hB9 c_89 c_123) (by rw [show i + 1 + (i + 1 + j + 1) % 2 = i + 2 by omega]; have := jStep_len (w := w) (h := h) (M := M) (P := P) σ (i, j); omega) (by rw [show i + 1 + (i + 1 + j + 1) % 2 = i + 2 by omega]; exact hT)
                · refine rn_goto (tgt := 172) dX8_find_126 (by decide) ?_
                  refine rn_iinc (v := nI (i + 1)) (ls' := [some (.ref 44), some (.int (nI j)), some (.int (nI (i + 1))), some (.int (nI (ρ (lnum w h M (ulS w i j))))), some (.int (nI (ρ (lnum w h M (st1 w M i j)))))]) dX8_find_172 rfl (nI_add _ 1) (by decide) rfl rfl ?_
                  refine rn_goto (tgt := 56) dX8_find_175 (by decide) ?_
                  refine rn_ls (ls' := [some (.ref 44), some (.int (nI j)), some (.int (nI (i + 1))), none, none]) rfl (fun k x h => by rcases k with _ | _ | _ | _ | _ | k <;> first | exact h | (simp at h)) ?_
                  rw [jStep_f (Or.inr ((hHR.2 _ _ hA9 hB9).mpr c_123))] at hT
                  exact ih (i + 1) (by omega) (by omega) (by omega) hjh _ _ hC (by rw [show i + 1 + (i + 1 + j + 1) % 2 = i + 2 by omega]; omega) (by rw [show i + 1 + (i + 1 + j + 1) % 2 = i + 2 by omega]; exact hT)
              · refine rn_goto (tgt := 172) dX8_find_92 (by decide) ?_
                refine rn_iinc (v := nI (i + 1)) (ls' := [some (.ref 44), some (.int (nI j)), some (.int (nI (i + 1))), none, none]) dX8_find_172 rfl (nI_add _ 1) (by decide) rfl rfl ?_
                refine rn_goto (tgt := 56) dX8_find_175 (by decide) ?_
                refine rn_ls (ls' := [some (.ref 44), some (.int (nI j)), some (.int (nI (i + 1))), none, none]) rfl (fun k x h => by rcases k with _ | _ | _ | _ | _ | k <;> first | exact h | (simp at h)) ?_
                first
                | (rw [jStep_f (Or.inl c_89)] at hT; exact ih (i + 1) (by omega) (by omega) (by omega) hjh _ _ hC (by rw [show i + 1 + (i + 1 + j + 1) % 2 = i + 2 by omega]; omega) (by rw [show i + 1 + (i + 1 + j + 1) % 2 = i + 2 by omega]; exact hT))
                | (have hpar : ¬ nInner w h i j = true := (by rw [← pInner_nI (by omega) (by omega), c_75]; decide); have hpar2 : (i + j) % 2 = 0 := (Decidable.byContradiction (fun q => hpar (nIn.mpr (by omega)))); exact ih (i + 1) (by omega) (by omega) (by omega) hjh _ _ hC (by rw [show i + 1 + (i + 1 + j + 1) % 2 = i + (i + j + 1) % 2 by omega]; omega) (by rw [show i + 1 + (i + 1 + j + 1) % 2 = i + (i + j + 1) % 2 by omega]; exact hT))
      have hG1 := hC.gr hG0
      have hPM1 := hC.pm hPM0
      refine rn_iload_n dX8_find_42 rfl rfl ?_
      refine rn_iconst (v := nI 2) dX8_find_43 (by decide) ?_
      refine rn_aload_n dX8_find_44 rfl rfl ?_
      refine rn_getR (r := 46) dX8_find_45 fd_8_13 (sk_l hs 44 (by decide)) (sk_k44 hs) rfl (sk_r44_1 hs) ?_
      refine rn_iconst (v := nI 0) dX8_find_48 (by decide) ?_
      refine rn_ialoadN dX8_find_49 (sk_l hs 46 (by decide)) (sk_k46 hs) (by omega) (by omega) ?_
      refine rn_top (y := nI h) (hG1.2.1) ?_
      refine rn_imul dX8_find_50 ?_
      refine rn_top (pk_mul _ _) ?_
      refine rn_icmp_geN (tgt := 184) dX8_find_51 (by decide) (by omega) (by omega) (fun c_51 => ?_) (fun c_51 => ?_)
      · refine rn_return dX8_find_184 rfl ?_
        rw [rowsP_n (by omega), List.foldl_nil] at hT
        rw [hT]
        exact ⟨rfl, rfl, I1, hKM, hC⟩
      · rw [rowsP_c (by omega), List.foldl_append, show 1 + j % 2 = 1 + (1 + j + 1) % 2 by omega] at hT
        rw [rowsP_c (by omega), List.length_append, show 1 + j % 2 = 1 + (1 + j + 1) % 2 by omega] at hlen
        refine rn_iconst (v := nI 1) dX8_find_54 (by decide) ?_
        refine rn_istore_n (ls' := [some (.ref 44), some (.int (nI j)), some (.int (nI 1)), none, none]) dX8_find_55 rfl (by decide) rfl rfl ?_
        exact LI _ 1 (Nat.le_refl _) (by omega) (by omega) (by omega) σ I hC hlen hT
  have K27 : am_Rn 4 Y_X8_find (0, 0) 27 [some (.ref 44), some (.int (nI (lcnt w h M))), none, none, none] [] S1 (va_up I1 53 (idF (I1 53) (lcnt w h M))) (fun r S' I' => r = none ∧ S' = S1 ∧ ∃ I1, KM I0 I1 ∧ CM (lcnt w h M) I1 T I') := by
    refine rn_aload_n dX8_find_27 rfl rfl ?_
    refine rn_iconst (v := nI 0) dX8_find_28 (by decide) ?_
    refine rn_putI dX8_find_29 fd_8_105 (sk_l hs 44 (by decide)) (sk_k44 hs) rfl rfl (vp_nar_int _) rfl ?_
    refine rn_aload_n dX8_find_32 rfl rfl ?_
    refine rn_aload_n dX8_find_33 rfl rfl ?_
    refine rn_getI dX8_find_34 fd_8_85 (sk_l hs 44 (by decide)) (sk_k44 hs) rfl ?_
    refine rn_top (y := nI (lcnt w h M)) (by have h9 := hn1; simp [am_up, va_up, h9]) ?_
    refine rn_putI dX8_find_37 fd_8_108 (sk_l hs 44 (by decide)) (sk_k44 hs) rfl rfl (vp_nar_int _) rfl ?_
    refine rn_iconst (v := nI 1) dX8_find_40 (by decide) ?_
    refine rn_istore_n (ls' := [some (.ref 44), some (.int (nI 1)), none, none, none]) dX8_find_41 rfl (by decide) rfl rfl ?_
    exact LJ _ 1 (Nat.le_refl _) (by omega) (by omega) _ _ CM0 (by have := pts_len w8 h8; unfold pts at this; simp only [List.length_nil]; omega) hTe
  have L6 : ∀ k, k ≤ lcnt w h M → am_Rn 4 Y_X8_find (0, 0) 6 [some (.ref 44), some (.int (nI k)), none, none, none] [] S1 (va_up I1 53 (idF (I1 53) k)) (fun r S' I' => r = none ∧ S' = S1 ∧ ∃ I1, KM I0 I1 ∧ CM (lcnt w h M) I1 T I') := by
    refine am_loop _ (fun k hk ih => ?_)
    refine rn_iload_n dX8_find_6 rfl rfl ?_
    refine rn_aload_n dX8_find_7 rfl rfl ?_
    refine rn_getI dX8_find_8 fd_8_85 (sk_l hs 44 (by decide)) (sk_k44 hs) rfl ?_
    refine rn_top (y := nI (lcnt w h M)) ((congrFun (va_up_o I1 (r := 53) _ (by decide)) 4).trans hn1) ?_
    refine rn_icmp_geN (tgt := 27) dX8_find_11 (by decide) (by omega) (by omega) (fun c_11 => ?_) (fun c_11 => ?_)
    · rw [show k = lcnt w h M by omega]
      exact K27
    · refine rn_aload_n dX8_find_14 rfl rfl ?_
      refine rn_getR (r := 53) dX8_find_15 fd_8_36 (sk_l hs 44 (by decide)) (sk_k44 hs) rfl (sk_r44_9 hs) ?_
      refine rn_iload_n dX8_find_18 rfl rfl ?_
      refine rn_iload_n dX8_find_19 rfl rfl ?_
      refine rn_iastoreN dX8_find_20 (sk_l hs 53 (by decide)) (sk_k53 hs) (by omega) (by omega) ?_
      refine rn_iinc (v := nI (k + 1)) (ls' := [some (.ref 44), some (.int (nI (k + 1))), none, none, none]) dX8_find_21 rfl (nI_add _ 1) (by decide) rfl rfl ?_
      refine rn_goto (tgt := 6) dX8_find_24 (by decide) ?_
      refine rn_I (idF_step _ 53 k) ?_
      exact ih (by omega)
  refine rn_I (idF_0 _ 53) ?_
  exact L6 0 (by omega)
/-- the reference: what finding may have changed -/
def KF (I I' : am_I) : Prop := (∀ b, b ≠ 44 → (b < 49 ∨ 54 < b) → I' b = I b) ∧ ∀ k, k ≠ 4 → k ≠ 10 → k ≠ 11 → I' 44 k = I 44 k
theorem KF_of {lc : Nat} {I0 I1 I : am_I} {σ : (Nat → Nat → Prop) × List (Nat × Nat)} (hK : KM I0 I1) (hC : CM lc I1 σ I) : KF I0 I := ⟨fun b b0 b1 => by rw [hC.1 b b0 (by omega) (by omega)]; exact hK.1 b b0 (by omega) (by omega) (by omega) (by omega), fun k k4 k10 k11 => by rw [hC.2.1 k k10 k11]; exact hK.2 k k4⟩
theorem KF.gr {I I' : am_I} {g w h : Nat} {M : Nat → Nat → Nat} (hK : KF I I') (hI : isGr I g w h M) : isGr I' g w h M := ⟨by rw [hK.1 45 (by decide) (by decide)]; exact hI.1, by rw [hK.1 46 (by decide) (by decide)]; exact hI.2.1, fun i j hi hj => by rw [hK.1 47 (by decide) (by decide)]; exact hI.2.2 i j hi hj⟩
set_option maxHeartbeats 1000000 in
set_option maxRecDepth 100000 in
theorem c_X8_joined {S : am_S} (hs : sk S) {I : am_I} {w h : Nat} {M P : Nat → Nat → Nat} (w1 : 1 ≤ w) (w8 : w ≤ 8) (h1 : 1 ≤ h) (h8 : h ≤ 8) (hok : okM w h M) (hokP : okM w h P) (hG : isGr I 0 w h M) (hPM : isPM w h P I) (t : Int32) : am_Mt 5 Y_X8_joined (0, 0) [.ref 44, .int t] S I (fun r S' I' => r = some (.int (vJoined w h M P t)) ∧ S' = S ∧ KF I I') := by
  have hjl := jC_len (M := M) (P := P) w8 h8
  by_cases q0 : t = nI 0
  · rw [show vJoined w h M P t = nI (lcnt w h M) - nI (jC w h M P).length by unfold vJoined; rw [if_pos q0], q0]
    refine am_mt ⟨by decide +kernel, rfl⟩ (Nat.le_of_ble_eq_true rfl) rfl ?_
    refine rn_aload_n dX8_joined_0 rfl rfl ?_
    refine rn_callV0 (st := []) dX8_joined_1 cf_8_115 (c_X8_find hs w1 w8 h1 h8 hok hokP hG hPM) (by decide) (sk_l hs 44 (by decide)) (sk_k44 hs) rfl rfl (Nat.le_of_ble_eq_true rfl) (fun r1 S1 I1 hq => ?_)
    obtain ⟨rfl, rfl, I9, hKM, hC⟩ := hq
    have hKF := KF_of hKM hC
    refine rn_iload_n dX8_joined_4 rfl rfl ?_
    refine rn_if_neN (tgt := 15) dX8_joined_5 (by decide) (by omega) (fun c_5 => ?_) (fun c_5 => ?_)
    · exact absurd c_5 (by decide)
    · refine rn_aload_n dX8_joined_8 rfl rfl ?_
      refine rn_getI dX8_joined_9 fd_8_108 (sk_l hs 44 (by decide)) (sk_k44 hs) rfl ?_
      refine rn_top (y := nI (lcnt w h M) - nI (jC w h M P).length) (hC.2.2.2.2.1) ?_
      refine rn_goto (tgt := 28) dX8_joined_12 (by decide) ?_
      refine rn_ireturn dX8_joined_28 rfl (vp_nar_int _) ?_
      exact ⟨rfl, rfl, hKF⟩
  by_cases q1 : t = nI 1
  · rw [show vJoined w h M P t = nI (jC w h M P).length by unfold vJoined; rw [if_neg q0, if_pos q1], q1]
    refine am_mt ⟨by decide +kernel, rfl⟩ (Nat.le_of_ble_eq_true rfl) rfl ?_
    refine rn_aload_n dX8_joined_0 rfl rfl ?_
    refine rn_callV0 (st := []) dX8_joined_1 cf_8_115 (c_X8_find hs w1 w8 h1 h8 hok hokP hG hPM) (by decide) (sk_l hs 44 (by decide)) (sk_k44 hs) rfl rfl (Nat.le_of_ble_eq_true rfl) (fun r1 S1 I1 hq => ?_)
    obtain ⟨rfl, rfl, I9, hKM, hC⟩ := hq
    have hKF := KF_of hKM hC
    refine rn_iload_n dX8_joined_4 rfl rfl ?_
    refine rn_if_neN (tgt := 15) dX8_joined_5 (by decide) (by omega) (fun c_5 => ?_) (fun c_5 => ?_)
    · refine rn_iload_n dX8_joined_15 rfl rfl ?_
      refine rn_iconst (v := nI 1) dX8_joined_16 (by decide) ?_
      refine rn_icmp_neN (tgt := 27) dX8_joined_17 (by decide) (by omega) (by omega) (fun c_17 => ?_) (fun c_17 => ?_)
      · exact absurd c_17 (by decide)
      · refine rn_aload_n dX8_joined_20 rfl rfl ?_
        refine rn_getI dX8_joined_21 fd_8_105 (sk_l hs 44 (by decide)) (sk_k44 hs) rfl ?_
        refine rn_top (y := nI ((jC w h M P).length)) (hC.2.2.2.1) ?_
        refine rn_goto (tgt := 28) dX8_joined_24 (by decide) ?_
        refine rn_ireturn dX8_joined_28 rfl (vp_nar_int _) ?_
        exact ⟨rfl, rfl, hKF⟩
    · exact absurd c_5 (by decide)
  rw [show vJoined w h M P t = -1 by unfold vJoined; rw [if_neg q0, if_neg q1]]
  refine am_mt ⟨by decide +kernel, rfl⟩ (Nat.le_of_ble_eq_true rfl) rfl ?_
  refine rn_aload_n dX8_joined_0 rfl rfl ?_
  refine rn_callV0 (st := []) dX8_joined_1 cf_8_115 (c_X8_find hs w1 w8 h1 h8 hok hokP hG hPM) (by decide) (sk_l hs 44 (by decide)) (sk_k44 hs) rfl rfl (Nat.le_of_ble_eq_true rfl) (fun r1 S1 I1 hq => ?_)
  obtain ⟨rfl, rfl, I9, hKM, hC⟩ := hq
  have hKF := KF_of hKM hC
  refine rn_iload_n dX8_joined_4 rfl rfl ?_
  refine rn_if_ne (tgt := 15) dX8_joined_5 (by decide) (fun c_5 => ?_) (fun c_5 => ?_)
  · refine rn_iload_n dX8_joined_15 rfl rfl ?_
    refine rn_iconst (v := nI 1) dX8_joined_16 (by decide) ?_
    refine rn_icmp_ne (tgt := 27) dX8_joined_17 (by decide) (fun c_17 => ?_) (fun c_17 => ?_)
    · refine rn_iconst (v := (-1)) dX8_joined_27 (by decide) ?_
      refine rn_ireturn dX8_joined_28 rfl (vp_nar_int _) ?_
      exact ⟨rfl, rfl, hKF⟩
    · exact absurd c_17 q1
  · exact absurd c_5 q0
set_option maxHeartbeats 1000000 in
set_option maxRecDepth 100000 in
theorem c_X8_oth {S : am_S} (hs : sk S) {I : am_I} {p : Nat} (hp : p < 5780) : am_Mt 0 Y_X8_other (0, 0) [.ref 44, .int (nI p)] S I (am_q (some (.int (if I 47 p = 0 then nI 1 else nI 0))) S I) := by
  refine am_mt ⟨by decide +kernel, rfl⟩ (Nat.le_of_ble_eq_true rfl) rfl ?_
  refine rn_aload_n dX8_other_0 rfl rfl ?_
  refine rn_getR (r := 47) dX8_other_1 fd_8_16 (sk_l hs 44 (by decide)) (sk_k44 hs) rfl (sk_r44_2 hs) ?_
  refine rn_iload_n dX8_other_4 rfl rfl ?_
  refine rn_baloadN dX8_other_5 (sk_l hs 47 (by decide)) (sk_k47 hs) (by decide) (by omega) (by omega) ?_
  refine rn_if_ne (tgt := 13) dX8_other_6 (by decide) (fun c_6 => ?_) (fun c_6 => ?_)
  · refine rn_iconst (v := nI 0) dX8_other_13 (by decide) ?_
    refine rn_ireturn dX8_other_14 rfl (vp_nar_int _) ?_
    exact ⟨by first | rw [if_pos c_6] | rw [if_neg c_6], rfl, rfl⟩
  · refine rn_iconst (v := nI 1) dX8_other_9 (by decide) ?_
    refine rn_goto (tgt := 14) dX8_other_10 (by decide) ?_
    refine rn_ireturn dX8_other_14 rfl (vp_nar_int _) ?_
    exact ⟨by first | rw [if_pos c_6] | rw [if_neg c_6], rfl, rfl⟩
theorem sub1_le {n : Nat} (hn : n < 2147483648) : (nI n - nI 1).toInt = (n : Int) - 1 := by
  by_cases h : n = 0
  · subst h; decide
  · rw [pk_sub (by omega), z_nI (by omega)]; omega
set_option maxHeartbeats 1000000 in
set_option maxRecDepth 100000 in
theorem c_X8_change {S : am_S} (hs : sk S) {I : am_I} {w h : Nat} {M P : Nat → Nat → Nat} (w1 : 1 ≤ w) (w8 : w ≤ 8) (h1 : 1 ≤ h) (h8 : h ≤ 8) (hok : okM w h M) (hokP : okM w h P) (hG : isGr I 0 w h M) (hPM : isPM w h P I) (k t : Int32) : am_Mt 5 Y_X8_change (0, 0) [.ref 44, .int k, .int t] S I (fun r S' I' => r = some (.int (vChg w h M P k t)) ∧ S' = S ∧ KF I I') := by
  have hjl := jC_len (M := M) (P := P) w8 h8
  have e0 := z_nI (n := 0) (by decide)
  by_cases hin0 : 0 ≤ k.toInt ∧ k.toInt < ((jC w h M P).length : Int)
  · obtain ⟨y, hy, rfl⟩ : ∃ y, y < (jC w h M P).length ∧ k = nI y := ⟨k.toInt.toNat, by omega, z_nat hin0.1⟩
    have ek := z_nI (n := y) (by omega)
    have el := z_nI (n := (jC w h M P).length - 1) (by omega)
    have ey : (nI y).toInt.toNat = y := by rw [ek]; omega
    rw [show vChg w h M P (nI y) t = vChgIn w h M P y t by unfold vChg; rw [if_pos hin0, ey]]
    obtain ⟨⟨i, j⟩, hp⟩ : ∃ p, (jC w h M P).getD y (0, 0) = p := ⟨_, rfl⟩
    have hin : nInner w h i j = true := by have h9 := jC_in (getD_mem hy); rw [hp] at h9; exact h9
    have hb := nIn.mp hin
    have hm2 := hok i j hin
    by_cases q0 : t = nI 0
    · rw [show vChgIn w h M P y t = nI i by unfold vChgIn; rw [if_pos q0, hp], q0]
      refine am_mt ⟨by decide +kernel, rfl⟩ (Nat.le_of_ble_eq_true rfl) rfl ?_
      refine rn_aload_n dX8_change_0 rfl rfl ?_
      refine rn_callV0 (st := []) dX8_change_1 cf_8_115 (c_X8_find hs w1 w8 h1 h8 hok hokP hG hPM) (by decide) (sk_l hs 44 (by decide)) (sk_k44 hs) rfl rfl (Nat.le_of_ble_eq_true rfl) (fun r1 S1 I1 hq => ?_)
      obtain ⟨rfl, rfl, I9, hKM, hC⟩ := hq
      have hKF := KF_of hKM hC
      refine rn_iload_n dX8_change_4 rfl rfl ?_
      refine rn_iconst (v := nI 0) dX8_change_5 (by decide) ?_
      refine rn_aload_n dX8_change_6 rfl rfl ?_
      refine rn_getI dX8_change_7 fd_8_105 (sk_l hs 44 (by decide)) (sk_k44 hs) rfl ?_
      refine rn_top (y := nI ((jC w h M P).length)) (hC.2.2.2.1) ?_
      refine rn_iconst (v := nI 1) dX8_change_10 (by decide) ?_
      refine rn_isub dX8_change_11 ?_
      refine rn_top (pk_sub (by omega)) ?_
      refine rn_callSq (st := []) dX8_change_12 cf_8_70 (c_X8_isIn _ I1 _ _ _) (by decide) rfl rfl (Nat.le_of_ble_eq_true rfl) ?_
      refine rn_if_neB (tgt := 20) dX8_change_15 (by decide) (fun c_15 => ?_) (fun c_15 => ?_)
      · refine rn_aload_n dX8_change_20 rfl rfl ?_
        refine rn_getR (r := 54) dX8_change_21 fd_8_39 (sk_l hs 44 (by decide)) (sk_k44 hs) rfl (sk_r44_12 hs) ?_
        refine rn_iload_n dX8_change_24 rfl rfl ?_
        refine rn_ialoadN dX8_change_25 (sk_l hs 54 (by decide)) (sk_k54 hs) (by omega) (by omega) ?_
        refine rn_top (y := nI (17 * j + i)) (by have h9 := hC.2.2.2.2.2 y hy; have e9 : (jEnd w h M P).2.getD y (0, 0) = (i, j) := hp; rw [e9] at h9; exact h9) ?_
        refine rn_istore_n (ls' := [some (.ref 44), some (.int (nI y)), some (.int (nI 0)), some (.int (nI (17 * j + i)))]) dX8_change_26 rfl (by decide) rfl rfl ?_
        refine rn_iload_n dX8_change_27 rfl rfl ?_
        refine rn_if_neN (tgt := 38) dX8_change_28 (by decide) (by omega) (fun c_28 => ?_) (fun c_28 => ?_)
        · exact absurd c_28 (by decide)
        · refine rn_iload_n dX8_change_31 rfl rfl ?_
          refine rn_bipush (v := nI 17) dX8_change_32 (by decide) ?_
          refine rn_irem dX8_change_34 (by decide) ?_
          refine rn_top (pk_rem (by omega) (by omega) (by omega)) ?_
          refine rn_goto (tgt := 64) dX8_change_35 (by decide) ?_
          refine rn_ireturn dX8_change_64 rfl (vp_nar_int _) ?_
          exact ⟨by rw [show (17 * j + i) % 17 = i by omega], rfl, hKF⟩
      · exact absurd c_15 (by rw [e0, ek, el]; simp; omega)
    by_cases q1 : t = nI 1
    · rw [show vChgIn w h M P y t = nI j by unfold vChgIn; rw [if_neg q0, if_pos q1, hp], q1]
      refine am_mt ⟨by decide +kernel, rfl⟩ (Nat.le_of_ble_eq_true rfl) rfl ?_
      refine rn_aload_n dX8_change_0 rfl rfl ?_
      refine rn_callV0 (st := []) dX8_change_1 cf_8_115 (c_X8_find hs w1 w8 h1 h8 hok hokP hG hPM) (by decide) (sk_l hs 44 (by decide)) (sk_k44 hs) rfl rfl (Nat.le_of_ble_eq_true rfl) (fun r1 S1 I1 hq => ?_)
      obtain ⟨rfl, rfl, I9, hKM, hC⟩ := hq
      have hKF := KF_of hKM hC
      refine rn_iload_n dX8_change_4 rfl rfl ?_
      refine rn_iconst (v := nI 0) dX8_change_5 (by decide) ?_
      refine rn_aload_n dX8_change_6 rfl rfl ?_
      refine rn_getI dX8_change_7 fd_8_105 (sk_l hs 44 (by decide)) (sk_k44 hs) rfl ?_
      refine rn_top (y := nI ((jC w h M P).length)) (hC.2.2.2.1) ?_
      refine rn_iconst (v := nI 1) dX8_change_10 (by decide) ?_
      refine rn_isub dX8_change_11 ?_
      refine rn_top (pk_sub (by omega)) ?_
      refine rn_callSq (st := []) dX8_change_12 cf_8_70 (c_X8_isIn _ I1 _ _ _) (by decide) rfl rfl (Nat.le_of_ble_eq_true rfl) ?_
      refine rn_if_neB (tgt := 20) dX8_change_15 (by decide) (fun c_15 => ?_) (fun c_15 => ?_)
      · refine rn_aload_n dX8_change_20 rfl rfl ?_
        refine rn_getR (r := 54) dX8_change_21 fd_8_39 (sk_l hs 44 (by decide)) (sk_k44 hs) rfl (sk_r44_12 hs) ?_
        refine rn_iload_n dX8_change_24 rfl rfl ?_
        refine rn_ialoadN dX8_change_25 (sk_l hs 54 (by decide)) (sk_k54 hs) (by omega) (by omega) ?_
        refine rn_top (y := nI (17 * j + i)) (by have h9 := hC.2.2.2.2.2 y hy; have e9 : (jEnd w h M P).2.getD y (0, 0) = (i, j) := hp; rw [e9] at h9; exact h9) ?_
        refine rn_istore_n (ls' := [some (.ref 44), some (.int (nI y)), some (.int (nI 1)), some (.int (nI (17 * j + i)))]) dX8_change_26 rfl (by decide) rfl rfl ?_
        refine rn_iload_n dX8_change_27 rfl rfl ?_
        refine rn_if_neN (tgt := 38) dX8_change_28 (by decide) (by omega) (fun c_28 => ?_) (fun c_28 => ?_)
        · refine rn_iload_n dX8_change_38 rfl rfl ?_
          refine rn_iconst (v := nI 1) dX8_change_39 (by decide) ?_
          refine rn_icmp_neN (tgt := 50) dX8_change_40 (by decide) (by omega) (by omega) (fun c_40 => ?_) (fun c_40 => ?_)
          · exact absurd c_40 (by decide)
          · refine rn_iload_n dX8_change_43 rfl rfl ?_
            refine rn_bipush (v := nI 17) dX8_change_44 (by decide) ?_
            refine rn_idiv dX8_change_46 (by decide) ?_
            refine rn_top (pk_div (by omega) (by omega) (by omega)) ?_
            refine rn_goto (tgt := 64) dX8_change_47 (by decide) ?_
            refine rn_ireturn dX8_change_64 rfl (vp_nar_int _) ?_
            exact ⟨by rw [show (17 * j + i) / 17 = j by omega], rfl, hKF⟩
        · exact absurd c_28 (by decide)
      · exact absurd c_15 (by rw [e0, ek, el]; simp; omega)
    by_cases q2 : t = nI 2
    · rw [show vChgIn w h M P y t = nI (lo (M i j)) by unfold vChgIn; rw [if_neg q0, if_neg q1, if_pos q2, hp], q2]
      refine am_mt ⟨by decide +kernel, rfl⟩ (Nat.le_of_ble_eq_true rfl) rfl ?_
      refine rn_aload_n dX8_change_0 rfl rfl ?_
      refine rn_callV0 (st := []) dX8_change_1 cf_8_115 (c_X8_find hs w1 w8 h1 h8 hok hokP hG hPM) (by decide) (sk_l hs 44 (by decide)) (sk_k44 hs) rfl rfl (Nat.le_of_ble_eq_true rfl) (fun r1 S1 I1 hq => ?_)
      obtain ⟨rfl, rfl, I9, hKM, hC⟩ := hq
      have hKF := KF_of hKM hC
      refine rn_iload_n dX8_change_4 rfl rfl ?_
      refine rn_iconst (v := nI 0) dX8_change_5 (by decide) ?_
      refine rn_aload_n dX8_change_6 rfl rfl ?_
      refine rn_getI dX8_change_7 fd_8_105 (sk_l hs 44 (by decide)) (sk_k44 hs) rfl ?_
      refine rn_top (y := nI ((jC w h M P).length)) (hC.2.2.2.1) ?_
      refine rn_iconst (v := nI 1) dX8_change_10 (by decide) ?_
      refine rn_isub dX8_change_11 ?_
      refine rn_top (pk_sub (by omega)) ?_
      refine rn_callSq (st := []) dX8_change_12 cf_8_70 (c_X8_isIn _ I1 _ _ _) (by decide) rfl rfl (Nat.le_of_ble_eq_true rfl) ?_
      refine rn_if_neB (tgt := 20) dX8_change_15 (by decide) (fun c_15 => ?_) (fun c_15 => ?_)
      · refine rn_aload_n dX8_change_20 rfl rfl ?_
        refine rn_getR (r := 54) dX8_change_21 fd_8_39 (sk_l hs 44 (by decide)) (sk_k44 hs) rfl (sk_r44_12 hs) ?_
        refine rn_iload_n dX8_change_24 rfl rfl ?_
        refine rn_ialoadN dX8_change_25 (sk_l hs 54 (by decide)) (sk_k54 hs) (by omega) (by omega) ?_
        refine rn_top (y := nI (17 * j + i)) (by have h9 := hC.2.2.2.2.2 y hy; have e9 : (jEnd w h M P).2.getD y (0, 0) = (i, j) := hp; rw [e9] at h9; exact h9) ?_
        refine rn_istore_n (ls' := [some (.ref 44), some (.int (nI y)), some (.int (nI 2)), some (.int (nI (17 * j + i)))]) dX8_change_26 rfl (by decide) rfl rfl ?_
        refine rn_iload_n dX8_change_27 rfl rfl ?_
        refine rn_if_neN (tgt := 38) dX8_change_28 (by decide) (by omega) (fun c_28 => ?_) (fun c_28 => ?_)
        · refine rn_iload_n dX8_change_38 rfl rfl ?_
          refine rn_iconst (v := nI 1) dX8_change_39 (by decide) ?_
          refine rn_icmp_neN (tgt := 50) dX8_change_40 (by decide) (by omega) (by omega) (fun c_40 => ?_) (fun c_40 => ?_)
          · refine rn_iload_n dX8_change_50 rfl rfl ?_
            refine rn_iconst (v := nI 2) dX8_change_51 (by decide) ?_
            refine rn_icmp_neN (tgt := 63) dX8_change_52 (by decide) (by omega) (by omega) (fun c_52 => ?_) (fun c_52 => ?_)
            · exact absurd c_52 (by decide)
            · refine rn_aload_n dX8_change_55 rfl rfl ?_
              refine rn_iload_n dX8_change_56 rfl rfl ?_
              refine rn_callVq (st := []) dX8_change_57 cf_8_118 (c_X8_oth hs (by omega)) (by decide) (sk_l hs 44 (by decide)) (sk_k44 hs) rfl rfl (Nat.le_of_ble_eq_true rfl) ?_
              refine rn_top (y := nI (lo (M i j))) (by have h9 := (hKF.gr hG).2.2 i j (by omega) (by omega); rw [Nat.mul_zero, Nat.zero_add, show gv w h M i j = M i j from if_pos hin] at h9; rw [h9]; exact lo_n hm2) ?_
              refine rn_goto (tgt := 64) dX8_change_60 (by decide) ?_
              refine rn_ireturn dX8_change_64 rfl (vp_nar_int _) ?_
              exact ⟨rfl, rfl, hKF⟩
          · exact absurd c_40 (by decide)
        · exact absurd c_28 (by decide)
      · exact absurd c_15 (by rw [e0, ek, el]; simp; omega)
    rw [show vChgIn w h M P y t = -1 by unfold vChgIn; rw [if_neg q0, if_neg q1, if_neg q2]]
    refine am_mt ⟨by decide +kernel, rfl⟩ (Nat.le_of_ble_eq_true rfl) rfl ?_
    refine rn_aload_n dX8_change_0 rfl rfl ?_
    refine rn_callV0 (st := []) dX8_change_1 cf_8_115 (c_X8_find hs w1 w8 h1 h8 hok hokP hG hPM) (by decide) (sk_l hs 44 (by decide)) (sk_k44 hs) rfl rfl (Nat.le_of_ble_eq_true rfl) (fun r1 S1 I1 hq => ?_)
    obtain ⟨rfl, rfl, I9, hKM, hC⟩ := hq
    have hKF := KF_of hKM hC
    refine rn_iload_n dX8_change_4 rfl rfl ?_
    refine rn_iconst (v := nI 0) dX8_change_5 (by decide) ?_
    refine rn_aload_n dX8_change_6 rfl rfl ?_
    refine rn_getI dX8_change_7 fd_8_105 (sk_l hs 44 (by decide)) (sk_k44 hs) rfl ?_
    refine rn_top (y := nI ((jC w h M P).length)) (hC.2.2.2.1) ?_
    refine rn_iconst (v := nI 1) dX8_change_10 (by decide) ?_
    refine rn_isub dX8_change_11 ?_
    refine rn_top (pk_sub (by omega)) ?_
    refine rn_callSq (st := []) dX8_change_12 cf_8_70 (c_X8_isIn _ I1 _ _ _) (by decide) rfl rfl (Nat.le_of_ble_eq_true rfl) ?_
    refine rn_if_neB (tgt := 20) dX8_change_15 (by decide) (fun c_15 => ?_) (fun c_15 => ?_)
    · refine rn_aload_n dX8_change_20 rfl rfl ?_
      refine rn_getR (r := 54) dX8_change_21 fd_8_39 (sk_l hs 44 (by decide)) (sk_k44 hs) rfl (sk_r44_12 hs) ?_
      refine rn_iload_n dX8_change_24 rfl rfl ?_
      refine rn_ialoadN dX8_change_25 (sk_l hs 54 (by decide)) (sk_k54 hs) (by omega) (by omega) ?_
      refine rn_top (y := nI (17 * j + i)) (by have h9 := hC.2.2.2.2.2 y hy; have e9 : (jEnd w h M P).2.getD y (0, 0) = (i, j) := hp; rw [e9] at h9; exact h9) ?_
      refine rn_istore_n (ls' := [some (.ref 44), some (.int (nI y)), some (.int t), some (.int (nI (17 * j + i)))]) dX8_change_26 rfl (by decide) rfl rfl ?_
      refine rn_iload_n dX8_change_27 rfl rfl ?_
      refine rn_if_ne (tgt := 38) dX8_change_28 (by decide) (fun c_28 => ?_) (fun c_28 => ?_)
      · refine rn_iload_n dX8_change_38 rfl rfl ?_
        refine rn_iconst (v := nI 1) dX8_change_39 (by decide) ?_
        refine rn_icmp_ne (tgt := 50) dX8_change_40 (by decide) (fun c_40 => ?_) (fun c_40 => ?_)
        · refine rn_iload_n dX8_change_50 rfl rfl ?_
          refine rn_iconst (v := nI 2) dX8_change_51 (by decide) ?_
          refine rn_icmp_ne (tgt := 63) dX8_change_52 (by decide) (fun c_52 => ?_) (fun c_52 => ?_)
          · refine rn_iconst (v := (-1)) dX8_change_63 (by decide) ?_
            refine rn_ireturn dX8_change_64 rfl (vp_nar_int _) ?_
            exact ⟨rfl, rfl, hKF⟩
          · exact absurd c_52 q2
        · exact absurd c_40 q1
      · exact absurd c_28 q0
    · exact absurd c_15 (by rw [e0, ek, el]; simp; omega)
  · rw [show vChg w h M P k t = -1 by unfold vChg; rw [if_neg hin0]]
    refine am_mt ⟨by decide +kernel, rfl⟩ (Nat.le_of_ble_eq_true rfl) rfl ?_
    refine rn_aload_n dX8_change_0 rfl rfl ?_
    refine rn_callV0 (st := []) dX8_change_1 cf_8_115 (c_X8_find hs w1 w8 h1 h8 hok hokP hG hPM) (by decide) (sk_l hs 44 (by decide)) (sk_k44 hs) rfl rfl (Nat.le_of_ble_eq_true rfl) (fun r1 S1 I1 hq => ?_)
    obtain ⟨rfl, rfl, I9, hKM, hC⟩ := hq
    have hKF := KF_of hKM hC
    refine rn_iload_n dX8_change_4 rfl rfl ?_
    refine rn_iconst (v := nI 0) dX8_change_5 (by decide) ?_
    refine rn_aload_n dX8_change_6 rfl rfl ?_
    refine rn_getI dX8_change_7 fd_8_105 (sk_l hs 44 (by decide)) (sk_k44 hs) rfl ?_
    refine rn_top (y := nI ((jC w h M P).length)) (hC.2.2.2.1) ?_
    refine rn_iconst (v := nI 1) dX8_change_10 (by decide) ?_
    refine rn_isub dX8_change_11 ?_
    refine rn_callSq (st := []) dX8_change_12 cf_8_70 (c_X8_isIn _ I1 _ _ _) (by decide) rfl rfl (Nat.le_of_ble_eq_true rfl) ?_
    refine rn_if_neB (tgt := 20) dX8_change_15 (by decide) (fun c_15 => ?_) (fun c_15 => ?_)
    · exact absurd (of_decide_eq_true c_15) (fun q => hin0 (by rw [e0] at q; have h9 := sub1_le (n := (jC w h M P).length) (by omega); rw [h9] at q; omega))
    · refine rn_iconst (v := (-1)) dX8_change_18 (by decide) ?_
      refine rn_ireturn dX8_change_19 rfl (vp_nar_int _) ?_
      exact ⟨rfl, rfl, hKF⟩
/-- the reference after a join -/
def KFU (w h : Nat) (M' : Nat → Nat → Nat) (I I' : am_I) : Prop := (∀ b, b ≠ 44 → b ≠ 47 → (b < 49 ∨ 54 < b) → I' b = I b) ∧ (∀ k, k ≠ 4 → k ≠ 10 → k ≠ 11 → I' 44 k = I 44 k) ∧ isGr I' 0 w h M' ∧ ∀ x, 289 ≤ x → I' 47 x = I 47 x
set_option maxHeartbeats 1000000 in
set_option maxRecDepth 100000 in
theorem c_X8_join {S : am_S} (hs : sk S) {I : am_I} {w h : Nat} {M P : Nat → Nat → Nat} (w1 : 1 ≤ w) (w8 : w ≤ 8) (h1 : 1 ≤ h) (h8 : h ≤ 8) (hok : okM w h M) (hokP : okM w h P) (hG : isGr I 0 w h M) (hPM : isPM w h P I) : am_Mt 5 Y_X8_join (0, 0) [.ref 44] S I (fun r S' I' => r = some (.int (nI (jC w h M P).length)) ∧ S' = S ∧ KFU w h (jM w h M P) I I') := by
  have hjl := jC_len (M := M) (P := P) w8 h8
  refine am_mt ⟨by decide +kernel, rfl⟩ (Nat.le_of_ble_eq_true rfl) rfl ?_
  refine rn_aload_n dX8_join_0 rfl rfl ?_
  refine rn_callV0 (st := []) dX8_join_1 cf_8_115 (c_X8_find hs w1 w8 h1 h8 hok hokP hG hPM) (by decide) (sk_l hs 44 (by decide)) (sk_k44 hs) rfl rfl (Nat.le_of_ble_eq_true rfl) (fun r1 S1 I1 hq => ?_)
  obtain ⟨rfl, rfl, I9, hKM, hC⟩ := hq
  have hKF := KF_of hKM hC
  refine rn_iconst (v := nI 0) dX8_join_4 (by decide) ?_
  refine rn_istore_n (ls' := [some (.ref 44), some (.int (nI 0))]) dX8_join_5 rfl (by decide) rfl rfl ?_
  have LP : ∀ y, y ≤ (jC w h M P).length → ∀ I2 : am_I, (∀ b, b ≠ 47 → I2 b = I1 b) → (∀ x, 289 ≤ x → I2 47 x = I1 47 x) → isGr I2 0 w h (List.foldl jLo M ((jC w h M P).take y)) → am_Rn 5 Y_X8_join (0, 0) 6 [some (.ref 44), some (.int (nI y))] [] S1 I2 (fun r S' I' => r = some (.int (nI (jC w h M P).length)) ∧ S' = S1 ∧ KFU w h (jM w h M P) I I') := by
    refine am_loop _ (fun y hy9 ih => ?_)
    intro I2 hF2 hT2 hD2
    have hl2 : I2 44 10 = nI (jC w h M P).length := by rw [hF2 44 (by decide)]; exact hC.2.2.2.1
    refine rn_iload_n dX8_join_6 rfl rfl ?_
    refine rn_aload_n dX8_join_7 rfl rfl ?_
    refine rn_getI dX8_join_8 fd_8_105 (sk_l hs 44 (by decide)) (sk_k44 hs) rfl ?_
    refine rn_top (y := nI ((jC w h M P).length)) (hl2) ?_
    refine rn_icmp_geN (tgt := 42) dX8_join_11 (by decide) (by omega) (by omega) (fun c_11 => ?_) (fun c_11 => ?_)
    · refine rn_aload_n dX8_join_42 rfl rfl ?_
      refine rn_getI dX8_join_43 fd_8_105 (sk_l hs 44 (by decide)) (sk_k44 hs) rfl ?_
      refine rn_top (y := nI ((jC w h M P).length)) (hl2) ?_
      refine rn_ireturn dX8_join_46 rfl (vp_nar_int _) ?_
      rw [show y = (jC w h M P).length by omega, List.take_length] at hD2
      exact ⟨rfl, rfl, fun b b0 b2 b7 => by rw [hF2 b b2]; exact hKF.1 b b0 b7, fun k k4 k10 k11 => by rw [hF2 44 (by decide)]; exact hKF.2 k k4 k10 k11, hD2, fun x hx => by rw [hT2 x hx, hKF.1 47 (by decide) (by decide)]⟩
    · have hy : y < (jC w h M P).length := c_11
      obtain ⟨⟨i, j⟩, hp⟩ : ∃ p, (jC w h M P).getD y (0, 0) = p := ⟨_, rfl⟩
      have hin : nInner w h i j = true := by have h9 := jC_in (getD_mem hy); rw [hp] at h9; exact h9
      have hb := nIn.mp hin
      have hm2 := okM_jf (w := w) (h := h) ((jC w h M P).take y) hok i j hin
      refine rn_aload_n dX8_join_14 rfl rfl ?_
      refine rn_getR (r := 47) dX8_join_15 fd_8_16 (sk_l hs 44 (by decide)) (sk_k44 hs) rfl (sk_r44_2 hs) ?_
      refine rn_aload_n dX8_join_18 rfl rfl ?_
      refine rn_getR (r := 54) dX8_join_19 fd_8_39 (sk_l hs 44 (by decide)) (sk_k44 hs) rfl (sk_r44_12 hs) ?_
      refine rn_iload_n dX8_join_22 rfl rfl ?_
      refine rn_ialoadN dX8_join_23 (sk_l hs 54 (by decide)) (sk_k54 hs) (by omega) (by omega) ?_
      refine rn_top (y := nI (17 * j + i)) (by rw [hF2 54 (by decide)]; have h9 := hC.2.2.2.2.2 y hy; have e9 : (jEnd w h M P).2.getD y (0, 0) = (i, j) := hp; rw [e9] at h9; exact h9) ?_
      refine rn_aload_n dX8_join_24 rfl rfl ?_
      refine rn_aload_n dX8_join_25 rfl rfl ?_
      refine rn_getR (r := 54) dX8_join_26 fd_8_39 (sk_l hs 44 (by decide)) (sk_k44 hs) rfl (sk_r44_12 hs) ?_
      refine rn_iload_n dX8_join_29 rfl rfl ?_
      refine rn_ialoadN dX8_join_30 (sk_l hs 54 (by decide)) (sk_k54 hs) (by omega) (by omega) ?_
      refine rn_top (y := nI (17 * j + i)) (by rw [hF2 54 (by decide)]; have h9 := hC.2.2.2.2.2 y hy; have e9 : (jEnd w h M P).2.getD y (0, 0) = (i, j) := hp; rw [e9] at h9; exact h9) ?_
      refine rn_callVq (st := [.int (nI (17 * j + i)), .ref 47]) dX8_join_31 cf_8_118 (c_X8_oth hs (by omega)) (by decide) (sk_l hs 44 (by decide)) (sk_k44 hs) rfl rfl (Nat.le_of_ble_eq_true rfl) ?_
      refine rn_top (y := nI (lo ((List.foldl jLo M ((jC w h M P).take y)) i j))) (by have h9 := hD2.2.2 i j (by omega) (by omega); rw [Nat.mul_zero, Nat.zero_add, show gv w h (List.foldl jLo M ((jC w h M P).take y)) i j = (List.foldl jLo M ((jC w h M P).take y)) i j from if_pos hin] at h9; rw [h9]; exact lo_n hm2) ?_
      refine rn_i2b dX8_join_34 ?_
      refine rn_top (y := nI (lo ((List.foldl jLo M ((jC w h M P).take y)) i j))) (b8_n (Nat.le_trans (lo_le _) (by decide))) ?_
      refine rn_bastoreN dX8_join_35 (sk_l hs 47 (by decide)) (sk_k47 hs) (by omega) (by omega) ?_
      refine rn_iinc (v := nI (y + 1)) (ls' := [some (.ref 44), some (.int (nI (y + 1)))]) dX8_join_36 rfl (nI_add _ 1) (by decide) rfl rfl ?_
      refine rn_goto (tgt := 6) dX8_join_39 (by decide) ?_
      rw [show (nI (lo ((List.foldl jLo M ((jC w h M P).take y)) i j))).toInt8.toInt32 = nI (lo ((List.foldl jLo M ((jC w h M P).take y)) i j)) from b8_n (Nat.le_trans (lo_le _) (by decide))]
      refine ih c_11 _ (fun b hb => by rw [am_up_a _ _ hb]; exact hF2 b hb) (fun x hx => by rw [am_up_k _ _ (by omega)]; exact hT2 x hx) ?_
      rw [take_s hy, List.foldl_append, hp]
      have h9 := isGr_up (g := 0) w8 h8 hD2 hin (lo ((List.foldl jLo M ((jC w h M P).take y)) i j))
      rw [Nat.mul_zero, Nat.zero_add] at h9
      exact h9
  exact LP 0 (by omega) I1 (fun _ _ => rfl) (fun _ _ => rfl) (hKF.gr hG)
