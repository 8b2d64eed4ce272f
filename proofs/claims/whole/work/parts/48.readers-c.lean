theorem bnd_assoc {A C E : Type} (x : (Nat × Nat) ⊕ A) (f : A → (Nat × Nat) ⊕ C) (g : C → (Nat × Nat) ⊕ E) : bnd (bnd x f) g = bnd x (fun a => bnd (f a) g) := by cases x <;> rfl
theorem cW_lt {t : Nat} (h : t < 3) : cW t = 0 := by
  rcases (show t = 0 ∨ t = 1 ∨ t = 2 by omega) with rfl | rfl | rfl <;> rfl
section PX
variable {n : Nat} {B : Nat → Nat} {Sh : Nat → Option Dw} {k p : Nat}
theorem pE_w (h : tK n B (tS n B p) < 3) : pE n B Sh k p = .inl (1, tS n B p) := by
  have e : pB n B Sh k p = .inl (1, tS n B p) := if_pos h
  cases k with
  | zero => rw [pE_0, e]; rfl
  | succ k => rw [pE_s, e]; rfl
theorem pE_3 (h : tK n B (tS n B p) = 3) : pE n B Sh k p = bnd (pN n B 1 8 (tE n B (tS n B p))) (fun a => bnd (pN n B 1 8 a.2) (fun b => .inr ((a.1, b.1, zM), b.2))) := by
  have e : pB n B Sh k p = bnd (pN n B 1 8 (tE n B (tS n B p))) (fun a => bnd (pN n B 1 8 a.2) (fun b => .inr (.inl ((a.1, b.1, zM), b.2)))) := by
    unfold pB; rw [if_neg (by omega), if_pos h]
  cases k with
  | zero =>
    rw [pE_0, e, bnd_assoc]; congr 1; funext a; rw [bnd_assoc]; rfl
  | succ k =>
    rw [pE_s, e, bnd_assoc]; congr 1; funext a; rw [bnd_assoc]; rfl
theorem pE_4 (h : tK n B (tS n B p) = 4) : pE n B Sh k p = bnd (pN n B 0 7 (tE n B (tS n B p))) (fun a => match Sh a.1 with
    | none => .inl (2, tS n B (tE n B (tS n B p)))
    | some D => .inr (D, a.2)) := by
  have e : pB n B Sh k p = bnd (pN n B 0 7 (tE n B (tS n B p))) (fun a => match Sh a.1 with
    | none => .inl (2, tS n B (tE n B (tS n B p)))
    | some D => .inr (.inl (D, a.2))) := by
    unfold pB; rw [if_neg (by omega), if_neg (by omega), if_pos h]; first | rfl | (congr 1; funext a; cases Sh a.1 <;> rfl)
  cases k with
  | zero =>
    rw [pE_0, e, bnd_assoc]; congr 1; funext a
    cases Sh a.1 <;> rfl
  | succ k =>
    rw [pE_s, e, bnd_assoc]; congr 1; funext a
    cases Sh a.1 <;> rfl
theorem pE_o (h : 5 ≤ tK n B (tS n B p)) : pE n B Sh 0 p = .inl (3, tS n B p) := by
  have e : pB n B Sh 0 p = .inl (3, tS n B p) := by
    unfold pB; rw [if_neg (by omega), if_neg (by omega), if_neg (by omega), if_pos rfl]
  rw [pE_0, e]; rfl
theorem pE_5 (h : tK n B (tS n B p) = 5) : pE n B Sh (k + 1) p = bnd (pN n B 0 16 (tE n B (tS n B p))) (fun a => bnd (pN n B 0 16 a.2) (fun b => bnd (pN n B 0 2 b.2) (fun c => bnd (pE n B Sh k c.2) (fun d => opt (4, tS n B p) ((oSet a.1 b.1 c.1 d.1).map (fun D => (D, d.2))))))) := by
  have e : pB n B Sh (k + 1) p = bnd (pN n B 0 16 (tE n B (tS n B p))) (fun a => bnd (pN n B 0 16 a.2) (fun b => bnd (pN n B 0 2 b.2) (fun c => .inr (.inr ((5, tS n B p, a.1, b.1, c.1), c.2))))) := by
    unfold pB; rw [if_neg (by omega), if_neg (by omega), if_neg (by omega), if_neg (by omega), if_pos h]
  rw [pE_s, e, bnd_assoc]; congr 1; funext a; rw [bnd_assoc]; congr 1; funext b; rw [bnd_assoc]; rfl
theorem pE_8 (h : tK n B (tS n B p) = 8) : pE n B Sh (k + 1) p = bnd (pN n B 1 8 (tE n B (tS n B p))) (fun a => bnd (pE n B Sh k a.2) (fun d => opt (4, tS n B p) ((oRow a.1 d.1).map (fun D => (D, d.2))))) := by
  have e : pB n B Sh (k + 1) p = bnd (pN n B 1 8 (tE n B (tS n B p))) (fun a => .inr (.inr ((8, tS n B p, a.1, 0, 0), a.2))) := by
    unfold pB; rw [if_neg (by omega), if_neg (by omega), if_neg (by omega), if_neg (by omega), if_neg (by omega), if_pos h]
  rw [pE_s, e, bnd_assoc]; rfl
theorem pB_u (h : tK n B (tS n B p) = 6 ∨ tK n B (tS n B p) = 7 ∨ 9 ≤ tK n B (tS n B p)) : pB n B Sh (k + 1) p = .inr (.inr ((tK n B (tS n B p), tS n B p, 0, 0, 0), tE n B (tS n B p))) := by
  unfold pB; rw [if_neg (by omega), if_neg (by omega), if_neg (by omega), if_neg (by omega), if_neg (by omega), if_neg (by omega)]
theorem pE_6 (h : tK n B (tS n B p) = 6) : pE n B Sh (k + 1) p = bnd (pE n B Sh k (tE n B (tS n B p))) (fun d => .inr (oTurn d.1, d.2)) := by
  rw [pE_s, pB_u (Or.inl h), h]; rfl
theorem pE_7 (h : tK n B (tS n B p) = 7) : pE n B Sh (k + 1) p = bnd (pE n B Sh k (tE n B (tS n B p))) (fun d => .inr (oFlip d.1, d.2)) := by
  rw [pE_s, pB_u (Or.inr (Or.inl h)), h]; rfl
theorem pE_9 (h : tK n B (tS n B p) = 9) : pE n B Sh (k + 1) p = bnd (pE n B Sh k (tE n B (tS n B p))) (fun d => bnd (pE n B Sh k d.2) (fun d2 => opt (4, tS n B p) ((oBes d.1 d2.1).map (fun D => (D, d2.2))))) := by
  rw [pE_s, pB_u (Or.inr (Or.inr (by omega))), h]; rfl
theorem pE_10 (h : tK n B (tS n B p) = 10) : pE n B Sh (k + 1) p = bnd (pE n B Sh k (tE n B (tS n B p))) (fun d => bnd (pE n B Sh k d.2) (fun d2 => opt (4, tS n B p) ((oAbv d.1 d2.1).map (fun D => (D, d2.2))))) := by
  rw [pE_s, pB_u (Or.inr (Or.inr (by omega))), h]; rfl
theorem pE_11 (h : tK n B (tS n B p) = 11) : pE n B Sh (k + 1) p = bnd (pE n B Sh k (tE n B (tS n B p))) (fun d => bnd (pE n B Sh k d.2) (fun d2 => opt (4, tS n B p) ((oOvr d.1 d2.1).map (fun D => (D, d2.2))))) := by
  rw [pE_s, pB_u (Or.inr (Or.inr (by omega))), h]; rfl
end PX
theorem RX.pre {S : am_S} {sl : Nat} {I I1 : am_I} {X X' : (Nat × Nat) ⊕ (Dw × Nat)} {r : Option Value} {S' : am_S} {I' : am_I} (h : RX S sl I1 X r S' I') (hF : FR sl I I1) (h16 : I1 16 = I 16) (hX : X' = X) : RX S sl I X' r S' I' := by
  obtain ⟨h1, h2, h3⟩ := h
  refine ⟨h1, hF.trans h2, ?_⟩
  rw [hX]
  rcases h3 with ⟨e, g1, g2, g3⟩ | ⟨d, g1, g2, g3, g4⟩
  · exact Or.inl ⟨e, g1, g2, g3⟩
  · exact Or.inr ⟨d, g1, g2, g3.trans h16, g4⟩
set_option maxHeartbeats 1000000 in
set_option maxRecDepth 100000 in
theorem RO_0 {S : am_S} (hs : sk S) {n : Nat} {B : Nat → Nat} (hB : okB n B) {Sh : Nat → Option Dw} : RO S n B Sh 0 := by
  intro sl p I hslk hp hT hS h4
  have h200 := hB.1
  have hsl8 : sl ≤ 8 := by omega
  have hd := (sk_ds hs (k := sl) (by omega)).2
  have hst : tS n B p ≤ n := tS_le hp
  have hte := tE_ge (n := n) (B := B) hst
  have htl := tK_le n B (tS n B p)
  by_cases ht : tK n B (tS n B p) < 3
  · refine am_mt ⟨by decide +kernel, rfl⟩ (Nat.le_of_ble_eq_true rfl) rfl ?_
    refine rn_aload_n dX4_readOne_0 rfl rfl ?_
    refine rn_getR (r := 19) dX4_readOne_1 fd_4_24 (sk_l hs 18 (by decide)) (sk_k18 hs) rfl (sk_r18_1 hs) ?_
    refine rn_callV0 (st := []) dX4_readOne_4 cf_4_50 (c_X5_advance hs hT hB hp h4) (by omega) (sk_l hs 19 (by decide)) (sk_k19 hs) rfl rfl (Nat.le_of_ble_eq_true rfl) (fun r1 S1 I1 hq => ?_)
    obtain ⟨rfl, rfl, hA⟩ := hq
    have hT1 := (hA.fn.fr 0).tx hT
    have hS1 := (hA.fn.fr 0).sh hs hS
    refine rn_aload_n dX4_readOne_7 rfl rfl ?_
    refine rn_getR (r := 19) dX4_readOne_8 fd_4_24 (sk_l hs 18 (by decide)) (sk_k18 hs) rfl (sk_r18_1 hs) ?_
    refine rn_callVq (st := []) dX4_readOne_11 cf_4_68 (c_X5_wordFound hs hT1 hB hA.2.1 hA.2.2.2.2 hte.1 hte.2) (by omega) (sk_l hs 19 (by decide)) (sk_k19 hs) rfl rfl (Nat.le_of_ble_eq_true rfl) ?_
    refine rn_top (y := nI 0) (by rw [cW_tK, cW_lt ht]) ?_
    refine rn_istore_n (ls' := [some (.ref 18), some (.int (nI (8 - 0))), some (.int (nI sl)), some (.int (nI 0)), none]) dX4_readOne_14 rfl (by decide) rfl rfl ?_
    refine rn_aload_n dX4_readOne_15 rfl rfl ?_
    refine rn_getR (r := 19) dX4_readOne_16 fd_4_24 (sk_l hs 18 (by decide)) (sk_k18 hs) rfl (sk_r18_1 hs) ?_
    refine rn_getI dX4_readOne_19 fd_4_57 (sk_l hs 19 (by decide)) (sk_k19 hs) rfl ?_
    refine rn_top (y := nI (tS n B p)) (hA.2.1) ?_
    refine rn_istore (ls' := [some (.ref 18), some (.int (nI (8 - 0))), some (.int (nI sl)), some (.int (nI 0)), some (.int (nI (tS n B p)))]) dX4_readOne_22 (by decide) rfl rfl ?_
    refine rn_iload_n dX4_readOne_24 rfl rfl ?_
    refine rn_if_ltN (tgt := 41) dX4_readOne_25 (by omega) (by decide) ?_
    refine rn_iload_n dX4_readOne_28 rfl rfl ?_
    refine rn_aload_n dX4_readOne_29 rfl rfl ?_
    refine rn_getR (r := 20) dX4_readOne_30 fd_4_30 (sk_l hs 18 (by decide)) (sk_k18 hs) rfl (sk_r18_3 hs) ?_
    refine rn_alenq dX4_readOne_33 (sk_l hs 20 (by decide)) (sk_k20 hs) ?_
    refine rn_icmp_geN (tgt := 41) dX4_readOne_34 (by decide) (by omega) (by omega) (fun c_34 => ?_) (fun c_34 => ?_)
    · omega
    · refine rn_iload_n dX4_readOne_37 rfl rfl ?_
      refine rn_if_neN (tgt := 52) dX4_readOne_38 (by decide) (by omega) (fun c_38 => ?_) (fun c_38 => ?_)
      · exact absurd c_38 (by decide)
      · refine rn_aload_n dX4_readOne_41 rfl rfl ?_
        refine rn_getR (r := 16) dX4_readOne_42 fd_4_9 (sk_l hs 18 (by decide)) (sk_k18 hs) rfl (sk_r18_0 hs) ?_
        refine rn_iconst (v := nI 1) dX4_readOne_45 (by decide) ?_
        refine rn_iload dX4_readOne_46 rfl ?_
        refine rn_callVq (st := []) dX4_readOne_48 cf_4_61 (c_X3_fail hs _ _) (by omega) (sk_l hs 16 (by decide)) (sk_k16 hs) rfl rfl (Nat.le_of_ble_eq_true rfl) ?_
        refine rn_ireturn dX4_readOne_51 rfl (by decide) ?_
        exact ⟨rfl, (hA.fn.fr sl).fail _ _, Or.inl ⟨(1, tS n B p), pE_w ht, rfl, by rw [am_up_k _ _ (by decide), am_up_at], by rw [am_up_at]⟩⟩
  by_cases ht : tK n B (tS n B p) = 3
  · skip
    rcases hX : pE n B Sh (0) p with e | d
    · refine am_mt ⟨by decide +kernel, rfl⟩ (Nat.le_of_ble_eq_true rfl) rfl ?_
      refine rn_aload_n dX4_readOne_0 rfl rfl ?_
      refine rn_getR (r := 19) dX4_readOne_1 fd_4_24 (sk_l hs 18 (by decide)) (sk_k18 hs) rfl (sk_r18_1 hs) ?_
      refine rn_callV0 (st := []) dX4_readOne_4 cf_4_50 (c_X5_advance hs hT hB hp h4) (by omega) (sk_l hs 19 (by decide)) (sk_k19 hs) rfl rfl (Nat.le_of_ble_eq_true rfl) (fun r1 S1 I1 hq => ?_)
      obtain ⟨rfl, rfl, hA⟩ := hq
      have hT1 := (hA.fn.fr 0).tx hT
      have hS1 := (hA.fn.fr 0).sh hs hS
      refine rn_aload_n dX4_readOne_7 rfl rfl ?_
      refine rn_getR (r := 19) dX4_readOne_8 fd_4_24 (sk_l hs 18 (by decide)) (sk_k18 hs) rfl (sk_r18_1 hs) ?_
      refine rn_callVq (st := []) dX4_readOne_11 cf_4_68 (c_X5_wordFound hs hT1 hB hA.2.1 hA.2.2.2.2 hte.1 hte.2) (by omega) (sk_l hs 19 (by decide)) (sk_k19 hs) rfl rfl (Nat.le_of_ble_eq_true rfl) ?_
      refine rn_top (y := nI 1) (by rw [cW_tK, ht]; rfl) ?_
      refine rn_istore_n (ls' := [some (.ref 18), some (.int (nI (8 - 0))), some (.int (nI sl)), some (.int (nI 1)), none]) dX4_readOne_14 rfl (by decide) rfl rfl ?_
      refine rn_aload_n dX4_readOne_15 rfl rfl ?_
      refine rn_getR (r := 19) dX4_readOne_16 fd_4_24 (sk_l hs 18 (by decide)) (sk_k18 hs) rfl (sk_r18_1 hs) ?_
      refine rn_getI dX4_readOne_19 fd_4_57 (sk_l hs 19 (by decide)) (sk_k19 hs) rfl ?_
      refine rn_top (y := nI (tS n B p)) (hA.2.1) ?_
      refine rn_istore (ls' := [some (.ref 18), some (.int (nI (8 - 0))), some (.int (nI sl)), some (.int (nI 1)), some (.int (nI (tS n B p)))]) dX4_readOne_22 (by decide) rfl rfl ?_
      refine rn_iload_n dX4_readOne_24 rfl rfl ?_
      refine rn_if_ltN (tgt := 41) dX4_readOne_25 (by omega) (by decide) ?_
      refine rn_iload_n dX4_readOne_28 rfl rfl ?_
      refine rn_aload_n dX4_readOne_29 rfl rfl ?_
      refine rn_getR (r := 20) dX4_readOne_30 fd_4_30 (sk_l hs 18 (by decide)) (sk_k18 hs) rfl (sk_r18_3 hs) ?_
      refine rn_alenq dX4_readOne_33 (sk_l hs 20 (by decide)) (sk_k20 hs) ?_
      refine rn_icmp_geN (tgt := 41) dX4_readOne_34 (by decide) (by omega) (by omega) (fun c_34 => ?_) (fun c_34 => ?_)
      · omega
      · refine rn_iload_n dX4_readOne_37 rfl rfl ?_
        refine rn_if_neN (tgt := 52) dX4_readOne_38 (by decide) (by omega) (fun c_38 => ?_) (fun c_38 => ?_)
        · refine rn_iload_n dX4_readOne_52 rfl rfl ?_
          refine rn_iconst (v := nI 1) dX4_readOne_53 (by decide) ?_
          refine rn_icmp_neN (tgt := 68) dX4_readOne_54 (by decide) (by omega) (by omega) (fun c_54 => ?_) (fun c_54 => ?_)
          · exact absurd c_54 (by decide)
          · refine rn_aload_n dX4_readOne_57 rfl rfl ?_
            refine rn_aload_n dX4_readOne_58 rfl rfl ?_
            refine rn_getR (r := 20) dX4_readOne_59 fd_4_30 (sk_l hs 18 (by decide)) (sk_k18 hs) rfl (sk_r18_3 hs) ?_
            refine rn_iload_n dX4_readOne_62 rfl rfl ?_
            refine rn_aaloadN dX4_readOne_63 (sk_l hs 20 (by decide)) (sk_k20 hs) (by omega) (by omega) ?_
            refine rn_topv (y := .ref (21 + 2 * sl)) (by rw [(sk_ds hs (k := sl) (by omega)).1]; rfl) ?_
            refine rn_callV0 (st := []) dX4_readOne_64 cf_4_72 (c_X4_readPlain hs hT1 hB hsl8 hte.2 hA.2.2.2.2) (by omega) (sk_l hs 18 (by decide)) (sk_k18 hs) rfl rfl (Nat.le_of_ble_eq_true rfl) (fun r1 S1 I2 hq => ?_)
            have hq9 := hq
            obtain ⟨rfl, rfl, _⟩ := hq.l ((pE_3 ht).symm.trans hX)
            refine rn_ireturn dX4_readOne_67 rfl (by decide) ?_
            exact hX ▸ hq9.pre (hA.fn.fr sl) (hA.1 16 (by decide)) (pE_3 ht)
        · exact absurd c_38 (by decide)
    · refine am_mt ⟨by decide +kernel, rfl⟩ (Nat.le_of_ble_eq_true rfl) rfl ?_
      refine rn_aload_n dX4_readOne_0 rfl rfl ?_
      refine rn_getR (r := 19) dX4_readOne_1 fd_4_24 (sk_l hs 18 (by decide)) (sk_k18 hs) rfl (sk_r18_1 hs) ?_
      refine rn_callV0 (st := []) dX4_readOne_4 cf_4_50 (c_X5_advance hs hT hB hp h4) (by omega) (sk_l hs 19 (by decide)) (sk_k19 hs) rfl rfl (Nat.le_of_ble_eq_true rfl) (fun r1 S1 I1 hq => ?_)
      obtain ⟨rfl, rfl, hA⟩ := hq
      have hT1 := (hA.fn.fr 0).tx hT
      have hS1 := (hA.fn.fr 0).sh hs hS
      refine rn_aload_n dX4_readOne_7 rfl rfl ?_
      refine rn_getR (r := 19) dX4_readOne_8 fd_4_24 (sk_l hs 18 (by decide)) (sk_k18 hs) rfl (sk_r18_1 hs) ?_
      refine rn_callVq (st := []) dX4_readOne_11 cf_4_68 (c_X5_wordFound hs hT1 hB hA.2.1 hA.2.2.2.2 hte.1 hte.2) (by omega) (sk_l hs 19 (by decide)) (sk_k19 hs) rfl rfl (Nat.le_of_ble_eq_true rfl) ?_
      refine rn_top (y := nI 1) (by rw [cW_tK, ht]; rfl) ?_
      refine rn_istore_n (ls' := [some (.ref 18), some (.int (nI (8 - 0))), some (.int (nI sl)), some (.int (nI 1)), none]) dX4_readOne_14 rfl (by decide) rfl rfl ?_
      refine rn_aload_n dX4_readOne_15 rfl rfl ?_
      refine rn_getR (r := 19) dX4_readOne_16 fd_4_24 (sk_l hs 18 (by decide)) (sk_k18 hs) rfl (sk_r18_1 hs) ?_
      refine rn_getI dX4_readOne_19 fd_4_57 (sk_l hs 19 (by decide)) (sk_k19 hs) rfl ?_
      refine rn_top (y := nI (tS n B p)) (hA.2.1) ?_
      refine rn_istore (ls' := [some (.ref 18), some (.int (nI (8 - 0))), some (.int (nI sl)), some (.int (nI 1)), some (.int (nI (tS n B p)))]) dX4_readOne_22 (by decide) rfl rfl ?_
      refine rn_iload_n dX4_readOne_24 rfl rfl ?_
      refine rn_if_ltN (tgt := 41) dX4_readOne_25 (by omega) (by decide) ?_
      refine rn_iload_n dX4_readOne_28 rfl rfl ?_
      refine rn_aload_n dX4_readOne_29 rfl rfl ?_
      refine rn_getR (r := 20) dX4_readOne_30 fd_4_30 (sk_l hs 18 (by decide)) (sk_k18 hs) rfl (sk_r18_3 hs) ?_
      refine rn_alenq dX4_readOne_33 (sk_l hs 20 (by decide)) (sk_k20 hs) ?_
      refine rn_icmp_geN (tgt := 41) dX4_readOne_34 (by decide) (by omega) (by omega) (fun c_34 => ?_) (fun c_34 => ?_)
      · omega
      · refine rn_iload_n dX4_readOne_37 rfl rfl ?_
        refine rn_if_neN (tgt := 52) dX4_readOne_38 (by decide) (by omega) (fun c_38 => ?_) (fun c_38 => ?_)
        · refine rn_iload_n dX4_readOne_52 rfl rfl ?_
          refine rn_iconst (v := nI 1) dX4_readOne_53 (by decide) ?_
          refine rn_icmp_neN (tgt := 68) dX4_readOne_54 (by decide) (by omega) (by omega) (fun c_54 => ?_) (fun c_54 => ?_)
          · exact absurd c_54 (by decide)
          · refine rn_aload_n dX4_readOne_57 rfl rfl ?_
            refine rn_aload_n dX4_readOne_58 rfl rfl ?_
            refine rn_getR (r := 20) dX4_readOne_59 fd_4_30 (sk_l hs 18 (by decide)) (sk_k18 hs) rfl (sk_r18_3 hs) ?_
            refine rn_iload_n dX4_readOne_62 rfl rfl ?_
            refine rn_aaloadN dX4_readOne_63 (sk_l hs 20 (by decide)) (sk_k20 hs) (by omega) (by omega) ?_
            refine rn_topv (y := .ref (21 + 2 * sl)) (by rw [(sk_ds hs (k := sl) (by omega)).1]; rfl) ?_
            refine rn_callV0 (st := []) dX4_readOne_64 cf_4_72 (c_X4_readPlain hs hT1 hB hsl8 hte.2 hA.2.2.2.2) (by omega) (sk_l hs 18 (by decide)) (sk_k18 hs) rfl rfl (Nat.le_of_ble_eq_true rfl) (fun r1 S1 I2 hq => ?_)
            have hq9 := hq
            obtain ⟨rfl, rfl, _⟩ := hq.r ((pE_3 ht).symm.trans hX)
            refine rn_ireturn dX4_readOne_67 rfl (by decide) ?_
            exact hX ▸ hq9.pre (hA.fn.fr sl) (hA.1 16 (by decide)) (pE_3 ht)
        · exact absurd c_38 (by decide)
  by_cases ht : tK n B (tS n B p) = 4
  · skip
    rcases hX : pE n B Sh (0) p with e | d
    · refine am_mt ⟨by decide +kernel, rfl⟩ (Nat.le_of_ble_eq_true rfl) rfl ?_
      refine rn_aload_n dX4_readOne_0 rfl rfl ?_
      refine rn_getR (r := 19) dX4_readOne_1 fd_4_24 (sk_l hs 18 (by decide)) (sk_k18 hs) rfl (sk_r18_1 hs) ?_
      refine rn_callV0 (st := []) dX4_readOne_4 cf_4_50 (c_X5_advance hs hT hB hp h4) (by omega) (sk_l hs 19 (by decide)) (sk_k19 hs) rfl rfl (Nat.le_of_ble_eq_true rfl) (fun r1 S1 I1 hq => ?_)
      obtain ⟨rfl, rfl, hA⟩ := hq
      have hT1 := (hA.fn.fr 0).tx hT
      have hS1 := (hA.fn.fr 0).sh hs hS
      refine rn_aload_n dX4_readOne_7 rfl rfl ?_
      refine rn_getR (r := 19) dX4_readOne_8 fd_4_24 (sk_l hs 18 (by decide)) (sk_k18 hs) rfl (sk_r18_1 hs) ?_
      refine rn_callVq (st := []) dX4_readOne_11 cf_4_68 (c_X5_wordFound hs hT1 hB hA.2.1 hA.2.2.2.2 hte.1 hte.2) (by omega) (sk_l hs 19 (by decide)) (sk_k19 hs) rfl rfl (Nat.le_of_ble_eq_true rfl) ?_
      refine rn_top (y := nI 9) (by rw [cW_tK, ht]; rfl) ?_
      refine rn_istore_n (ls' := [some (.ref 18), some (.int (nI (8 - 0))), some (.int (nI sl)), some (.int (nI 9)), none]) dX4_readOne_14 rfl (by decide) rfl rfl ?_
      refine rn_aload_n dX4_readOne_15 rfl rfl ?_
      refine rn_getR (r := 19) dX4_readOne_16 fd_4_24 (sk_l hs 18 (by decide)) (sk_k18 hs) rfl (sk_r18_1 hs) ?_
      refine rn_getI dX4_readOne_19 fd_4_57 (sk_l hs 19 (by decide)) (sk_k19 hs) rfl ?_
      refine rn_top (y := nI (tS n B p)) (hA.2.1) ?_
      refine rn_istore (ls' := [some (.ref 18), some (.int (nI (8 - 0))), some (.int (nI sl)), some (.int (nI 9)), some (.int (nI (tS n B p)))]) dX4_readOne_22 (by decide) rfl rfl ?_
      refine rn_iload_n dX4_readOne_24 rfl rfl ?_
      refine rn_if_ltN (tgt := 41) dX4_readOne_25 (by omega) (by decide) ?_
      refine rn_iload_n dX4_readOne_28 rfl rfl ?_
      refine rn_aload_n dX4_readOne_29 rfl rfl ?_
      refine rn_getR (r := 20) dX4_readOne_30 fd_4_30 (sk_l hs 18 (by decide)) (sk_k18 hs) rfl (sk_r18_3 hs) ?_
      refine rn_alenq dX4_readOne_33 (sk_l hs 20 (by decide)) (sk_k20 hs) ?_
      refine rn_icmp_geN (tgt := 41) dX4_readOne_34 (by decide) (by omega) (by omega) (fun c_34 => ?_) (fun c_34 => ?_)
      · omega
      · refine rn_iload_n dX4_readOne_37 rfl rfl ?_
        refine rn_if_neN (tgt := 52) dX4_readOne_38 (by decide) (by omega) (fun c_38 => ?_) (fun c_38 => ?_)
        · refine rn_iload_n dX4_readOne_52 rfl rfl ?_
          refine rn_iconst (v := nI 1) dX4_readOne_53 (by decide) ?_
          refine rn_icmp_neN (tgt := 68) dX4_readOne_54 (by decide) (by omega) (by omega) (fun c_54 => ?_) (fun c_54 => ?_)
          · refine rn_iload_n dX4_readOne_68 rfl rfl ?_
            refine rn_bipush (v := nI 9) dX4_readOne_69 (by decide) ?_
            refine rn_icmp_neN (tgt := 85) dX4_readOne_71 (by decide) (by omega) (by omega) (fun c_71 => ?_) (fun c_71 => ?_)
            · exact absurd c_71 (by decide)
            · refine rn_aload_n dX4_readOne_74 rfl rfl ?_
              refine rn_aload_n dX4_readOne_75 rfl rfl ?_
              refine rn_getR (r := 20) dX4_readOne_76 fd_4_30 (sk_l hs 18 (by decide)) (sk_k18 hs) rfl (sk_r18_3 hs) ?_
              refine rn_iload_n dX4_readOne_79 rfl rfl ?_
              refine rn_aaloadN dX4_readOne_80 (sk_l hs 20 (by decide)) (sk_k20 hs) (by omega) (by omega) ?_
              refine rn_topv (y := .ref (21 + 2 * sl)) (by rw [(sk_ds hs (k := sl) (by omega)).1]; rfl) ?_
              refine rn_callV0 (st := []) dX4_readOne_81 cf_4_76 (c_X4_readKept hs hT1 hB hS1 hsl8 hte.2 hA.2.2.2.2) (by omega) (sk_l hs 18 (by decide)) (sk_k18 hs) rfl rfl (Nat.le_of_ble_eq_true rfl) (fun r1 S1 I2 hq => ?_)
              have hq9 := hq
              obtain ⟨rfl, rfl, _⟩ := hq.l ((pE_4 ht).symm.trans hX)
              refine rn_ireturn dX4_readOne_84 rfl (by decide) ?_
              exact hX ▸ hq9.pre (hA.fn.fr sl) (hA.1 16 (by decide)) (pE_4 ht)
          · exact absurd c_54 (by decide)
        · exact absurd c_38 (by decide)
    · refine am_mt ⟨by decide +kernel, rfl⟩ (Nat.le_of_ble_eq_true rfl) rfl ?_
      refine rn_aload_n dX4_readOne_0 rfl rfl ?_
      refine rn_getR (r := 19) dX4_readOne_1 fd_4_24 (sk_l hs 18 (by decide)) (sk_k18 hs) rfl (sk_r18_1 hs) ?_
      refine rn_callV0 (st := []) dX4_readOne_4 cf_4_50 (c_X5_advance hs hT hB hp h4) (by omega) (sk_l hs 19 (by decide)) (sk_k19 hs) rfl rfl (Nat.le_of_ble_eq_true rfl) (fun r1 S1 I1 hq => ?_)
      obtain ⟨rfl, rfl, hA⟩ := hq
      have hT1 := (hA.fn.fr 0).tx hT
      have hS1 := (hA.fn.fr 0).sh hs hS
      refine rn_aload_n dX4_readOne_7 rfl rfl ?_
      refine rn_getR (r := 19) dX4_readOne_8 fd_4_24 (sk_l hs 18 (by decide)) (sk_k18 hs) rfl (sk_r18_1 hs) ?_
      refine rn_callVq (st := []) dX4_readOne_11 cf_4_68 (c_X5_wordFound hs hT1 hB hA.2.1 hA.2.2.2.2 hte.1 hte.2) (by omega) (sk_l hs 19 (by decide)) (sk_k19 hs) rfl rfl (Nat.le_of_ble_eq_true rfl) ?_
      refine rn_top (y := nI 9) (by rw [cW_tK, ht]; rfl) ?_
      refine rn_istore_n (ls' := [some (.ref 18), some (.int (nI (8 - 0))), some (.int (nI sl)), some (.int (nI 9)), none]) dX4_readOne_14 rfl (by decide) rfl rfl ?_
      refine rn_aload_n dX4_readOne_15 rfl rfl ?_
      refine rn_getR (r := 19) dX4_readOne_16 fd_4_24 (sk_l hs 18 (by decide)) (sk_k18 hs) rfl (sk_r18_1 hs) ?_
      refine rn_getI dX4_readOne_19 fd_4_57 (sk_l hs 19 (by decide)) (sk_k19 hs) rfl ?_
      refine rn_top (y := nI (tS n B p)) (hA.2.1) ?_
      refine rn_istore (ls' := [some (.ref 18), some (.int (nI (8 - 0))), some (.int (nI sl)), some (.int (nI 9)), some (.int (nI (tS n B p)))]) dX4_readOne_22 (by decide) rfl rfl ?_
      refine rn_iload_n dX4_readOne_24 rfl rfl ?_
      refine rn_if_ltN (tgt := 41) dX4_readOne_25 (by omega) (by decide) ?_
      refine rn_iload_n dX4_readOne_28 rfl rfl ?_
      refine rn_aload_n dX4_readOne_29 rfl rfl ?_
      refine rn_getR (r := 20) dX4_readOne_30 fd_4_30 (sk_l hs 18 (by decide)) (sk_k18 hs) rfl (sk_r18_3 hs) ?_
      refine rn_alenq dX4_readOne_33 (sk_l hs 20 (by decide)) (sk_k20 hs) ?_
      refine rn_icmp_geN (tgt := 41) dX4_readOne_34 (by decide) (by omega) (by omega) (fun c_34 => ?_) (fun c_34 => ?_)
      · omega
      · refine rn_iload_n dX4_readOne_37 rfl rfl ?_
        refine rn_if_neN (tgt := 52) dX4_readOne_38 (by decide) (by omega) (fun c_38 => ?_) (fun c_38 => ?_)
        · refine rn_iload_n dX4_readOne_52 rfl rfl ?_
          refine rn_iconst (v := nI 1) dX4_readOne_53 (by decide) ?_
          refine rn_icmp_neN (tgt := 68) dX4_readOne_54 (by decide) (by omega) (by omega) (fun c_54 => ?_) (fun c_54 => ?_)
          · refine rn_iload_n dX4_readOne_68 rfl rfl ?_
            refine rn_bipush (v := nI 9) dX4_readOne_69 (by decide) ?_
            refine rn_icmp_neN (tgt := 85) dX4_readOne_71 (by decide) (by omega) (by omega) (fun c_71 => ?_) (fun c_71 => ?_)
            · exact absurd c_71 (by decide)
            · refine rn_aload_n dX4_readOne_74 rfl rfl ?_
              refine rn_aload_n dX4_readOne_75 rfl rfl ?_
              refine rn_getR (r := 20) dX4_readOne_76 fd_4_30 (sk_l hs 18 (by decide)) (sk_k18 hs) rfl (sk_r18_3 hs) ?_
              refine rn_iload_n dX4_readOne_79 rfl rfl ?_
              refine rn_aaloadN dX4_readOne_80 (sk_l hs 20 (by decide)) (sk_k20 hs) (by omega) (by omega) ?_
              refine rn_topv (y := .ref (21 + 2 * sl)) (by rw [(sk_ds hs (k := sl) (by omega)).1]; rfl) ?_
              refine rn_callV0 (st := []) dX4_readOne_81 cf_4_76 (c_X4_readKept hs hT1 hB hS1 hsl8 hte.2 hA.2.2.2.2) (by omega) (sk_l hs 18 (by decide)) (sk_k18 hs) rfl rfl (Nat.le_of_ble_eq_true rfl) (fun r1 S1 I2 hq => ?_)
              have hq9 := hq
              obtain ⟨rfl, rfl, _⟩ := hq.r ((pE_4 ht).symm.trans hX)
              refine rn_ireturn dX4_readOne_84 rfl (by decide) ?_
              exact hX ▸ hq9.pre (hA.fn.fr sl) (hA.1 16 (by decide)) (pE_4 ht)
          · exact absurd c_54 (by decide)
        · exact absurd c_38 (by decide)
  have ht : 5 ≤ tK n B (tS n B p) := by omega
  have hcw : 2 ≤ cW (tK n B (tS n B p)) ∧ cW (tK n B (tS n B p)) ≤ 8 := by
    rcases (show tK n B (tS n B p) = 5 ∨ tK n B (tS n B p) = 6 ∨ tK n B (tS n B p) = 7 ∨ tK n B (tS n B p) = 8 ∨ tK n B (tS n B p) = 9 ∨ tK n B (tS n B p) = 10 ∨ tK n B (tS n B p) = 11 by omega) with h9 | h9 | h9 | h9 | h9 | h9 | h9 <;> rw [h9] <;> decide
  · refine am_mt ⟨by decide +kernel, rfl⟩ (Nat.le_of_ble_eq_true rfl) rfl ?_
    refine rn_aload_n dX4_readOne_0 rfl rfl ?_
    refine rn_getR (r := 19) dX4_readOne_1 fd_4_24 (sk_l hs 18 (by decide)) (sk_k18 hs) rfl (sk_r18_1 hs) ?_
    refine rn_callV0 (st := []) dX4_readOne_4 cf_4_50 (c_X5_advance hs hT hB hp h4) (by omega) (sk_l hs 19 (by decide)) (sk_k19 hs) rfl rfl (Nat.le_of_ble_eq_true rfl) (fun r1 S1 I1 hq => ?_)
    obtain ⟨rfl, rfl, hA⟩ := hq
    have hT1 := (hA.fn.fr 0).tx hT
    have hS1 := (hA.fn.fr 0).sh hs hS
    refine rn_aload_n dX4_readOne_7 rfl rfl ?_
    refine rn_getR (r := 19) dX4_readOne_8 fd_4_24 (sk_l hs 18 (by decide)) (sk_k18 hs) rfl (sk_r18_1 hs) ?_
    refine rn_callVq (st := []) dX4_readOne_11 cf_4_68 (c_X5_wordFound hs hT1 hB hA.2.1 hA.2.2.2.2 hte.1 hte.2) (by omega) (sk_l hs 19 (by decide)) (sk_k19 hs) rfl rfl (Nat.le_of_ble_eq_true rfl) ?_
    refine rn_top (y := nI (cW (tK n B (tS n B p)))) (by rw [cW_tK]) ?_
    refine rn_istore_n (ls' := [some (.ref 18), some (.int (nI (8 - 0))), some (.int (nI sl)), some (.int (nI (cW (tK n B (tS n B p))))), none]) dX4_readOne_14 rfl (by decide) rfl rfl ?_
    refine rn_aload_n dX4_readOne_15 rfl rfl ?_
    refine rn_getR (r := 19) dX4_readOne_16 fd_4_24 (sk_l hs 18 (by decide)) (sk_k18 hs) rfl (sk_r18_1 hs) ?_
    refine rn_getI dX4_readOne_19 fd_4_57 (sk_l hs 19 (by decide)) (sk_k19 hs) rfl ?_
    refine rn_top (y := nI (tS n B p)) (hA.2.1) ?_
    refine rn_istore (ls' := [some (.ref 18), some (.int (nI (8 - 0))), some (.int (nI sl)), some (.int (nI (cW (tK n B (tS n B p))))), some (.int (nI (tS n B p)))]) dX4_readOne_22 (by decide) rfl rfl ?_
    refine rn_iload_n dX4_readOne_24 rfl rfl ?_
    refine rn_if_ltN (tgt := 41) dX4_readOne_25 (by omega) (by decide) ?_
    refine rn_iload_n dX4_readOne_28 rfl rfl ?_
    refine rn_aload_n dX4_readOne_29 rfl rfl ?_
    refine rn_getR (r := 20) dX4_readOne_30 fd_4_30 (sk_l hs 18 (by decide)) (sk_k18 hs) rfl (sk_r18_3 hs) ?_
    refine rn_alenq dX4_readOne_33 (sk_l hs 20 (by decide)) (sk_k20 hs) ?_
    refine rn_icmp_geN (tgt := 41) dX4_readOne_34 (by decide) (by omega) (by omega) (fun c_34 => ?_) (fun c_34 => ?_)
    · omega
    · refine rn_iload_n dX4_readOne_37 rfl rfl ?_
      refine rn_if_neN (tgt := 52) dX4_readOne_38 (by decide) (by omega) (fun c_38 => ?_) (fun c_38 => ?_)
      · refine rn_iload_n dX4_readOne_52 rfl rfl ?_
        refine rn_iconst (v := nI 1) dX4_readOne_53 (by decide) ?_
        refine rn_icmp_neN (tgt := 68) dX4_readOne_54 (by decide) (by omega) (by omega) (fun c_54 => ?_) (fun c_54 => ?_)
        · refine rn_iload_n dX4_readOne_68 rfl rfl ?_
          refine rn_bipush (v := nI 9) dX4_readOne_69 (by decide) ?_
          refine rn_icmp_neN (tgt := 85) dX4_readOne_71 (by decide) (by omega) (by omega) (fun c_71 => ?_) (fun c_71 => ?_)
          · refine rn_iload_n dX4_readOne_85 rfl rfl ?_
            refine rn_bipush (v := nI 8) dX4_readOne_86 (by decide) ?_
            refine rn_icmp_ltN (tgt := 102) dX4_readOne_88 (by decide) (by omega) (by omega) (fun c_88 => ?_) (fun c_88 => ?_)
            · omega
            · refine rn_aload_n dX4_readOne_91 rfl rfl ?_
              refine rn_getR (r := 16) dX4_readOne_92 fd_4_9 (sk_l hs 18 (by decide)) (sk_k18 hs) rfl (sk_r18_0 hs) ?_
              refine rn_iconst (v := nI 3) dX4_readOne_95 (by decide) ?_
              refine rn_iload dX4_readOne_96 rfl ?_
              refine rn_callVq (st := []) dX4_readOne_98 cf_4_61 (c_X3_fail hs _ _) (by omega) (sk_l hs 16 (by decide)) (sk_k16 hs) rfl rfl (Nat.le_of_ble_eq_true rfl) ?_
              refine rn_ireturn dX4_readOne_101 rfl (by decide) ?_
              exact ⟨rfl, (hA.fn.fr sl).fail _ _, Or.inl ⟨(3, tS n B p), pE_o ht, rfl, by rw [am_up_k _ _ (by decide), am_up_at], by rw [am_up_at]⟩⟩
          · exact absurd c_71 (by omega)
        · exact absurd c_54 (by omega)
      · exact absurd c_38 (by omega)
set_option maxHeartbeats 1000000 in
set_option maxRecDepth 100000 in
theorem RO_s {S : am_S} (hs : sk S) {n : Nat} {B : Nat → Nat} (hB : okB n B) {Sh : Nat → Option Dw} {k : Nat} (hR : RO S n B Sh k) : RO S n B Sh (k + 1) := by
  intro sl p I hslk hp hT hS h4
  have h200 := hB.1
  have hsl8 : sl ≤ 8 := by omega
  have hd := (sk_ds hs (k := sl) (by omega)).2
  have hst : tS n B p ≤ n := tS_le hp
  have hte := tE_ge (n := n) (B := B) hst
  have htl := tK_le n B (tS n B p)
  by_cases ht : tK n B (tS n B p) < 3
  · refine am_mt ⟨by decide +kernel, rfl⟩ (Nat.le_of_ble_eq_true rfl) rfl ?_
    refine rn_aload_n dX4_readOne_0 rfl rfl ?_
    refine rn_getR (r := 19) dX4_readOne_1 fd_4_24 (sk_l hs 18 (by decide)) (sk_k18 hs) rfl (sk_r18_1 hs) ?_
    refine rn_callV0 (st := []) dX4_readOne_4 cf_4_50 (c_X5_advance hs hT hB hp h4) (by omega) (sk_l hs 19 (by decide)) (sk_k19 hs) rfl rfl (Nat.le_of_ble_eq_true rfl) (fun r1 S1 I1 hq => ?_)
    obtain ⟨rfl, rfl, hA⟩ := hq
    have hT1 := (hA.fn.fr 0).tx hT
    have hS1 := (hA.fn.fr 0).sh hs hS
    refine rn_aload_n dX4_readOne_7 rfl rfl ?_
    refine rn_getR (r := 19) dX4_readOne_8 fd_4_24 (sk_l hs 18 (by decide)) (sk_k18 hs) rfl (sk_r18_1 hs) ?_
    refine rn_callVq (st := []) dX4_readOne_11 cf_4_68 (c_X5_wordFound hs hT1 hB hA.2.1 hA.2.2.2.2 hte.1 hte.2) (by omega) (sk_l hs 19 (by decide)) (sk_k19 hs) rfl rfl (Nat.le_of_ble_eq_true rfl) ?_
    refine rn_top (y := nI 0) (by rw [cW_tK, cW_lt ht]) ?_
    refine rn_istore_n (ls' := [some (.ref 18), some (.int (nI (8 - (k + 1)))), some (.int (nI sl)), some (.int (nI 0)), none]) dX4_readOne_14 rfl (by decide) rfl rfl ?_
    refine rn_aload_n dX4_readOne_15 rfl rfl ?_
    refine rn_getR (r := 19) dX4_readOne_16 fd_4_24 (sk_l hs 18 (by decide)) (sk_k18 hs) rfl (sk_r18_1 hs) ?_
    refine rn_getI dX4_readOne_19 fd_4_57 (sk_l hs 19 (by decide)) (sk_k19 hs) rfl ?_
    refine rn_top (y := nI (tS n B p)) (hA.2.1) ?_
    refine rn_istore (ls' := [some (.ref 18), some (.int (nI (8 - (k + 1)))), some (.int (nI sl)), some (.int (nI 0)), some (.int (nI (tS n B p)))]) dX4_readOne_22 (by decide) rfl rfl ?_
    refine rn_iload_n dX4_readOne_24 rfl rfl ?_
    refine rn_if_ltN (tgt := 41) dX4_readOne_25 (by omega) (by decide) ?_
    refine rn_iload_n dX4_readOne_28 rfl rfl ?_
    refine rn_aload_n dX4_readOne_29 rfl rfl ?_
    refine rn_getR (r := 20) dX4_readOne_30 fd_4_30 (sk_l hs 18 (by decide)) (sk_k18 hs) rfl (sk_r18_3 hs) ?_
    refine rn_alenq dX4_readOne_33 (sk_l hs 20 (by decide)) (sk_k20 hs) ?_
    refine rn_icmp_geN (tgt := 41) dX4_readOne_34 (by decide) (by omega) (by omega) (fun c_34 => ?_) (fun c_34 => ?_)
    · omega
    · refine rn_iload_n dX4_readOne_37 rfl rfl ?_
      refine rn_if_neN (tgt := 52) dX4_readOne_38 (by decide) (by omega) (fun c_38 => ?_) (fun c_38 => ?_)
      · exact absurd c_38 (by decide)
      · refine rn_aload_n dX4_readOne_41 rfl rfl ?_
        refine rn_getR (r := 16) dX4_readOne_42 fd_4_9 (sk_l hs 18 (by decide)) (sk_k18 hs) rfl (sk_r18_0 hs) ?_
        refine rn_iconst (v := nI 1) dX4_readOne_45 (by decide) ?_
        refine rn_iload dX4_readOne_46 rfl ?_
        refine rn_callVq (st := []) dX4_readOne_48 cf_4_61 (c_X3_fail hs _ _) (by omega) (sk_l hs 16 (by decide)) (sk_k16 hs) rfl rfl (Nat.le_of_ble_eq_true rfl) ?_
        refine rn_ireturn dX4_readOne_51 rfl (by decide) ?_
        exact ⟨rfl, (hA.fn.fr sl).fail _ _, Or.inl ⟨(1, tS n B p), pE_w ht, rfl, by rw [am_up_k _ _ (by decide), am_up_at], by rw [am_up_at]⟩⟩
  by_cases ht : tK n B (tS n B p) = 3
  · skip
    rcases hX : pE n B Sh (k + 1) p with e | d
    · refine am_mt ⟨by decide +kernel, rfl⟩ (Nat.le_of_ble_eq_true rfl) rfl ?_
      refine rn_aload_n dX4_readOne_0 rfl rfl ?_
      refine rn_getR (r := 19) dX4_readOne_1 fd_4_24 (sk_l hs 18 (by decide)) (sk_k18 hs) rfl (sk_r18_1 hs) ?_
      refine rn_callV0 (st := []) dX4_readOne_4 cf_4_50 (c_X5_advance hs hT hB hp h4) (by omega) (sk_l hs 19 (by decide)) (sk_k19 hs) rfl rfl (Nat.le_of_ble_eq_true rfl) (fun r1 S1 I1 hq => ?_)
      obtain ⟨rfl, rfl, hA⟩ := hq
      have hT1 := (hA.fn.fr 0).tx hT
      have hS1 := (hA.fn.fr 0).sh hs hS
      refine rn_aload_n dX4_readOne_7 rfl rfl ?_
      refine rn_getR (r := 19) dX4_readOne_8 fd_4_24 (sk_l hs 18 (by decide)) (sk_k18 hs) rfl (sk_r18_1 hs) ?_
      refine rn_callVq (st := []) dX4_readOne_11 cf_4_68 (c_X5_wordFound hs hT1 hB hA.2.1 hA.2.2.2.2 hte.1 hte.2) (by omega) (sk_l hs 19 (by decide)) (sk_k19 hs) rfl rfl (Nat.le_of_ble_eq_true rfl) ?_
      refine rn_top (y := nI 1) (by rw [cW_tK, ht]; rfl) ?_
      refine rn_istore_n (ls' := [some (.ref 18), some (.int (nI (8 - (k + 1)))), some (.int (nI sl)), some (.int (nI 1)), none]) dX4_readOne_14 rfl (by decide) rfl rfl ?_
      refine rn_aload_n dX4_readOne_15 rfl rfl ?_
      refine rn_getR (r := 19) dX4_readOne_16 fd_4_24 (sk_l hs 18 (by decide)) (sk_k18 hs) rfl (sk_r18_1 hs) ?_
      refine rn_getI dX4_readOne_19 fd_4_57 (sk_l hs 19 (by decide)) (sk_k19 hs) rfl ?_
      refine rn_top (y := nI (tS n B p)) (hA.2.1) ?_
      refine rn_istore (ls' := [some (.ref 18), some (.int (nI (8 - (k + 1)))), some (.int (nI sl)), some (.int (nI 1)), some (.int (nI (tS n B p)))]) dX4_readOne_22 (by decide) rfl rfl ?_
      refine rn_iload_n dX4_readOne_24 rfl rfl ?_
      refine rn_if_ltN (tgt := 41) dX4_readOne_25 (by omega) (by decide) ?_
      refine rn_iload_n dX4_readOne_28 rfl rfl ?_
      refine rn_aload_n dX4_readOne_29 rfl rfl ?_
      refine rn_getR (r := 20) dX4_readOne_30 fd_4_30 (sk_l hs 18 (by decide)) (sk_k18 hs) rfl (sk_r18_3 hs) ?_
      refine rn_alenq dX4_readOne_33 (sk_l hs 20 (by decide)) (sk_k20 hs) ?_
      refine rn_icmp_geN (tgt := 41) dX4_readOne_34 (by decide) (by omega) (by omega) (fun c_34 => ?_) (fun c_34 => ?_)
      · omega
      · refine rn_iload_n dX4_readOne_37 rfl rfl ?_
        refine rn_if_neN (tgt := 52) dX4_readOne_38 (by decide) (by omega) (fun c_38 => ?_) (fun c_38 => ?_)
        · refine rn_iload_n dX4_readOne_52 rfl rfl ?_
          refine rn_iconst (v := nI 1) dX4_readOne_53 (by decide) ?_
          refine rn_icmp_neN (tgt := 68) dX4_readOne_54 (by decide) (by omega) (by omega) (fun c_54 => ?_) (fun c_54 => ?_)
          · exact absurd c_54 (by decide)
          · refine rn_aload_n dX4_readOne_57 rfl rfl ?_
            refine rn_aload_n dX4_readOne_58 rfl rfl ?_
            refine rn_getR (r := 20) dX4_readOne_59 fd_4_30 (sk_l hs 18 (by decide)) (sk_k18 hs) rfl (sk_r18_3 hs) ?_
            refine rn_iload_n dX4_readOne_62 rfl rfl ?_
            refine rn_aaloadN dX4_readOne_63 (sk_l hs 20 (by decide)) (sk_k20 hs) (by omega) (by omega) ?_
            refine rn_topv (y := .ref (21 + 2 * sl)) (by rw [(sk_ds hs (k := sl) (by omega)).1]; rfl) ?_
            refine rn_callV0 (st := []) dX4_readOne_64 cf_4_72 (c_X4_readPlain hs hT1 hB hsl8 hte.2 hA.2.2.2.2) (by omega) (sk_l hs 18 (by decide)) (sk_k18 hs) rfl rfl (Nat.le_of_ble_eq_true rfl) (fun r1 S1 I2 hq => ?_)
            have hq9 := hq
            obtain ⟨rfl, rfl, _⟩ := hq.l ((pE_3 ht).symm.trans hX)
            refine rn_ireturn dX4_readOne_67 rfl (by decide) ?_
            exact hX ▸ hq9.pre (hA.fn.fr sl) (hA.1 16 (by decide)) (pE_3 ht)
        · exact absurd c_38 (by decide)
    · refine am_mt ⟨by decide +kernel, rfl⟩ (Nat.le_of_ble_eq_true rfl) rfl ?_
      refine rn_aload_n dX4_readOne_0 rfl rfl ?_
      refine rn_getR (r := 19) dX4_readOne_1 fd_4_24 (sk_l hs 18 (by decide)) (sk_k18 hs) rfl (sk_r18_1 hs) ?_
      refine rn_callV0 (st := []) dX4_readOne_4 cf_4_50 (c_X5_advance hs hT hB hp h4) (by omega) (sk_l hs 19 (by decide)) (sk_k19 hs) rfl rfl (Nat.le_of_ble_eq_true rfl) (fun r1 S1 I1 hq => ?_)
      obtain ⟨rfl, rfl, hA⟩ := hq
      have hT1 := (hA.fn.fr 0).tx hT
      have hS1 := (hA.fn.fr 0).sh hs hS
      refine rn_aload_n dX4_readOne_7 rfl rfl ?_
      refine rn_getR (r := 19) dX4_readOne_8 fd_4_24 (sk_l hs 18 (by decide)) (sk_k18 hs) rfl (sk_r18_1 hs) ?_
      refine rn_callVq (st := []) dX4_readOne_11 cf_4_68 (c_X5_wordFound hs hT1 hB hA.2.1 hA.2.2.2.2 hte.1 hte.2) (by omega) (sk_l hs 19 (by decide)) (sk_k19 hs) rfl rfl (Nat.le_of_ble_eq_true rfl) ?_
      refine rn_top (y := nI 1) (by rw [cW_tK, ht]; rfl) ?_
      refine rn_istore_n (ls' := [some (.ref 18), some (.int (nI (8 - (k + 1)))), some (.int (nI sl)), some (.int (nI 1)), none]) dX4_readOne_14 rfl (by decide) rfl rfl ?_
      refine rn_aload_n dX4_readOne_15 rfl rfl ?_
      refine rn_getR (r := 19) dX4_readOne_16 fd_4_24 (sk_l hs 18 (by decide)) (sk_k18 hs) rfl (sk_r18_1 hs) ?_
      refine rn_getI dX4_readOne_19 fd_4_57 (sk_l hs 19 (by decide)) (sk_k19 hs) rfl ?_
      refine rn_top (y := nI (tS n B p)) (hA.2.1) ?_
      refine rn_istore (ls' := [some (.ref 18), some (.int (nI (8 - (k + 1)))), some (.int (nI sl)), some (.int (nI 1)), some (.int (nI (tS n B p)))]) dX4_readOne_22 (by decide) rfl rfl ?_
      refine rn_iload_n dX4_readOne_24 rfl rfl ?_
      refine rn_if_ltN (tgt := 41) dX4_readOne_25 (by omega) (by decide) ?_
      refine rn_iload_n dX4_readOne_28 rfl rfl ?_
      refine rn_aload_n dX4_readOne_29 rfl rfl ?_
      refine rn_getR (r := 20) dX4_readOne_30 fd_4_30 (sk_l hs 18 (by decide)) (sk_k18 hs) rfl (sk_r18_3 hs) ?_
      refine rn_alenq dX4_readOne_33 (sk_l hs 20 (by decide)) (sk_k20 hs) ?_
      refine rn_icmp_geN (tgt := 41) dX4_readOne_34 (by decide) (by omega) (by omega) (fun c_34 => ?_) (fun c_34 => ?_)
      · omega
      · refine rn_iload_n dX4_readOne_37 rfl rfl ?_
        refine rn_if_neN (tgt := 52) dX4_readOne_38 (by decide) (by omega) (fun c_38 => ?_) (fun c_38 => ?_)
        · refine rn_iload_n dX4_readOne_52 rfl rfl ?_
          refine rn_iconst (v := nI 1) dX4_readOne_53 (by decide) ?_
          refine rn_icmp_neN (tgt := 68) dX4_readOne_54 (by decide) (by omega) (by omega) (fun c_54 => ?_) (fun c_54 => ?_)
          · exact absurd c_54 (by decide)
          · refine rn_aload_n dX4_readOne_57 rfl rfl ?_
            refine rn_aload_n dX4_readOne_58 rfl rfl ?_
            refine rn_getR (r := 20) dX4_readOne_59 fd_4_30 (sk_l hs 18 (by decide)) (sk_k18 hs) rfl (sk_r18_3 hs) ?_
            refine rn_iload_n dX4_readOne_62 rfl rfl ?_
            refine rn_aaloadN dX4_readOne_63 (sk_l hs 20 (by decide)) (sk_k20 hs) (by omega) (by omega) ?_
            refine rn_topv (y := .ref (21 + 2 * sl)) (by rw [(sk_ds hs (k := sl) (by omega)).1]; rfl) ?_
            refine rn_callV0 (st := []) dX4_readOne_64 cf_4_72 (c_X4_readPlain hs hT1 hB hsl8 hte.2 hA.2.2.2.2) (by omega) (sk_l hs 18 (by decide)) (sk_k18 hs) rfl rfl (Nat.le_of_ble_eq_true rfl) (fun r1 S1 I2 hq => ?_)
            have hq9 := hq
            obtain ⟨rfl, rfl, _⟩ := hq.r ((pE_3 ht).symm.trans hX)
            refine rn_ireturn dX4_readOne_67 rfl (by decide) ?_
            exact hX ▸ hq9.pre (hA.fn.fr sl) (hA.1 16 (by decide)) (pE_3 ht)
        · exact absurd c_38 (by decide)
  by_cases ht : tK n B (tS n B p) = 4
  · skip
    rcases hX : pE n B Sh (k + 1) p with e | d
    · refine am_mt ⟨by decide +kernel, rfl⟩ (Nat.le_of_ble_eq_true rfl) rfl ?_
      refine rn_aload_n dX4_readOne_0 rfl rfl ?_
      refine rn_getR (r := 19) dX4_readOne_1 fd_4_24 (sk_l hs 18 (by decide)) (sk_k18 hs) rfl (sk_r18_1 hs) ?_
      refine rn_callV0 (st := []) dX4_readOne_4 cf_4_50 (c_X5_advance hs hT hB hp h4) (by omega) (sk_l hs 19 (by decide)) (sk_k19 hs) rfl rfl (Nat.le_of_ble_eq_true rfl) (fun r1 S1 I1 hq => ?_)
      obtain ⟨rfl, rfl, hA⟩ := hq
      have hT1 := (hA.fn.fr 0).tx hT
      have hS1 := (hA.fn.fr 0).sh hs hS
      refine rn_aload_n dX4_readOne_7 rfl rfl ?_
      refine rn_getR (r := 19) dX4_readOne_8 fd_4_24 (sk_l hs 18 (by decide)) (sk_k18 hs) rfl (sk_r18_1 hs) ?_
      refine rn_callVq (st := []) dX4_readOne_11 cf_4_68 (c_X5_wordFound hs hT1 hB hA.2.1 hA.2.2.2.2 hte.1 hte.2) (by omega) (sk_l hs 19 (by decide)) (sk_k19 hs) rfl rfl (Nat.le_of_ble_eq_true rfl) ?_
      refine rn_top (y := nI 9) (by rw [cW_tK, ht]; rfl) ?_
      refine rn_istore_n (ls' := [some (.ref 18), some (.int (nI (8 - (k + 1)))), some (.int (nI sl)), some (.int (nI 9)), none]) dX4_readOne_14 rfl (by decide) rfl rfl ?_
      refine rn_aload_n dX4_readOne_15 rfl rfl ?_
      refine rn_getR (r := 19) dX4_readOne_16 fd_4_24 (sk_l hs 18 (by decide)) (sk_k18 hs) rfl (sk_r18_1 hs) ?_
      refine rn_getI dX4_readOne_19 fd_4_57 (sk_l hs 19 (by decide)) (sk_k19 hs) rfl ?_
      refine rn_top (y := nI (tS n B p)) (hA.2.1) ?_
      refine rn_istore (ls' := [some (.ref 18), some (.int (nI (8 - (k + 1)))), some (.int (nI sl)), some (.int (nI 9)), some (.int (nI (tS n B p)))]) dX4_readOne_22 (by decide) rfl rfl ?_
      refine rn_iload_n dX4_readOne_24 rfl rfl ?_
      refine rn_if_ltN (tgt := 41) dX4_readOne_25 (by omega) (by decide) ?_
      refine rn_iload_n dX4_readOne_28 rfl rfl ?_
      refine rn_aload_n dX4_readOne_29 rfl rfl ?_
      refine rn_getR (r := 20) dX4_readOne_30 fd_4_30 (sk_l hs 18 (by decide)) (sk_k18 hs) rfl (sk_r18_3 hs) ?_
      refine rn_alenq dX4_readOne_33 (sk_l hs 20 (by decide)) (sk_k20 hs) ?_
      refine rn_icmp_geN (tgt := 41) dX4_readOne_34 (by decide) (by omega) (by omega) (fun c_34 => ?_) (fun c_34 => ?_)
      · omega
      · refine rn_iload_n dX4_readOne_37 rfl rfl ?_
        refine rn_if_neN (tgt := 52) dX4_readOne_38 (by decide) (by omega) (fun c_38 => ?_) (fun c_38 => ?_)
        · refine rn_iload_n dX4_readOne_52 rfl rfl ?_
          refine rn_iconst (v := nI 1) dX4_readOne_53 (by decide) ?_
          refine rn_icmp_neN (tgt := 68) dX4_readOne_54 (by decide) (by omega) (by omega) (fun c_54 => ?_) (fun c_54 => ?_)
          · refine rn_iload_n dX4_readOne_68 rfl rfl ?_
            refine rn_bipush (v := nI 9) dX4_readOne_69 (by decide) ?_
            refine rn_icmp_neN (tgt := 85) dX4_readOne_71 (by decide) (by omega) (by omega) (fun c_71 => ?_) (fun c_71 => ?_)
            · exact absurd c_71 (by decide)
            · refine rn_aload_n dX4_readOne_74 rfl rfl ?_
              refine rn_aload_n dX4_readOne_75 rfl rfl ?_
              refine rn_getR (r := 20) dX4_readOne_76 fd_4_30 (sk_l hs 18 (by decide)) (sk_k18 hs) rfl (sk_r18_3 hs) ?_
              refine rn_iload_n dX4_readOne_79 rfl rfl ?_
              refine rn_aaloadN dX4_readOne_80 (sk_l hs 20 (by decide)) (sk_k20 hs) (by omega) (by omega) ?_
              refine rn_topv (y := .ref (21 + 2 * sl)) (by rw [(sk_ds hs (k := sl) (by omega)).1]; rfl) ?_
              refine rn_callV0 (st := []) dX4_readOne_81 cf_4_76 (c_X4_readKept hs hT1 hB hS1 hsl8 hte.2 hA.2.2.2.2) (by omega) (sk_l hs 18 (by decide)) (sk_k18 hs) rfl rfl (Nat.le_of_ble_eq_true rfl) (fun r1 S1 I2 hq => ?_)
              have hq9 := hq
              obtain ⟨rfl, rfl, _⟩ := hq.l ((pE_4 ht).symm.trans hX)
              refine rn_ireturn dX4_readOne_84 rfl (by decide) ?_
              exact hX ▸ hq9.pre (hA.fn.fr sl) (hA.1 16 (by decide)) (pE_4 ht)
          · exact absurd c_54 (by decide)
        · exact absurd c_38 (by decide)
    · refine am_mt ⟨by decide +kernel, rfl⟩ (Nat.le_of_ble_eq_true rfl) rfl ?_
      refine rn_aload_n dX4_readOne_0 rfl rfl ?_
      refine rn_getR (r := 19) dX4_readOne_1 fd_4_24 (sk_l hs 18 (by decide)) (sk_k18 hs) rfl (sk_r18_1 hs) ?_
      refine rn_callV0 (st := []) dX4_readOne_4 cf_4_50 (c_X5_advance hs hT hB hp h4) (by omega) (sk_l hs 19 (by decide)) (sk_k19 hs) rfl rfl (Nat.le_of_ble_eq_true rfl) (fun r1 S1 I1 hq => ?_)
      obtain ⟨rfl, rfl, hA⟩ := hq
      have hT1 := (hA.fn.fr 0).tx hT
      have hS1 := (hA.fn.fr 0).sh hs hS
      refine rn_aload_n dX4_readOne_7 rfl rfl ?_
      refine rn_getR (r := 19) dX4_readOne_8 fd_4_24 (sk_l hs 18 (by decide)) (sk_k18 hs) rfl (sk_r18_1 hs) ?_
      refine rn_callVq (st := []) dX4_readOne_11 cf_4_68 (c_X5_wordFound hs hT1 hB hA.2.1 hA.2.2.2.2 hte.1 hte.2) (by omega) (sk_l hs 19 (by decide)) (sk_k19 hs) rfl rfl (Nat.le_of_ble_eq_true rfl) ?_
      refine rn_top (y := nI 9) (by rw [cW_tK, ht]; rfl) ?_
      refine rn_istore_n (ls' := [some (.ref 18), some (.int (nI (8 - (k + 1)))), some (.int (nI sl)), some (.int (nI 9)), none]) dX4_readOne_14 rfl (by decide) rfl rfl ?_
      refine rn_aload_n dX4_readOne_15 rfl rfl ?_
      refine rn_getR (r := 19) dX4_readOne_16 fd_4_24 (sk_l hs 18 (by decide)) (sk_k18 hs) rfl (sk_r18_1 hs) ?_
      refine rn_getI dX4_readOne_19 fd_4_57 (sk_l hs 19 (by decide)) (sk_k19 hs) rfl ?_
      refine rn_top (y := nI (tS n B p)) (hA.2.1) ?_
      refine rn_istore (ls' := [some (.ref 18), some (.int (nI (8 - (k + 1)))), some (.int (nI sl)), some (.int (nI 9)), some (.int (nI (tS n B p)))]) dX4_readOne_22 (by decide) rfl rfl ?_
      refine rn_iload_n dX4_readOne_24 rfl rfl ?_
      refine rn_if_ltN (tgt := 41) dX4_readOne_25 (by omega) (by decide) ?_
      refine rn_iload_n dX4_readOne_28 rfl rfl ?_
      refine rn_aload_n dX4_readOne_29 rfl rfl ?_
      refine rn_getR (r := 20) dX4_readOne_30 fd_4_30 (sk_l hs 18 (by decide)) (sk_k18 hs) rfl (sk_r18_3 hs) ?_
      refine rn_alenq dX4_readOne_33 (sk_l hs 20 (by decide)) (sk_k20 hs) ?_
      refine rn_icmp_geN (tgt := 41) dX4_readOne_34 (by decide) (by omega) (by omega) (fun c_34 => ?_) (fun c_34 => ?_)
      · omega
      · refine rn_iload_n dX4_readOne_37 rfl rfl ?_
        refine rn_if_neN (tgt := 52) dX4_readOne_38 (by decide) (by omega) (fun c_38 => ?_) (fun c_38 => ?_)
        · refine rn_iload_n dX4_readOne_52 rfl rfl ?_
          refine rn_iconst (v := nI 1) dX4_readOne_53 (by decide) ?_
          refine rn_icmp_neN (tgt := 68) dX4_readOne_54 (by decide) (by omega) (by omega) (fun c_54 => ?_) (fun c_54 => ?_)
          · refine rn_iload_n dX4_readOne_68 rfl rfl ?_
            refine rn_bipush (v := nI 9) dX4_readOne_69 (by decide) ?_
            refine rn_icmp_neN (tgt := 85) dX4_readOne_71 (by decide) (by omega) (by omega) (fun c_71 => ?_) (fun c_71 => ?_)
            · exact absurd c_71 (by decide)
            · refine rn_aload_n dX4_readOne_74 rfl rfl ?_
              refine rn_aload_n dX4_readOne_75 rfl rfl ?_
              refine rn_getR (r := 20) dX4_readOne_76 fd_4_30 (sk_l hs 18 (by decide)) (sk_k18 hs) rfl (sk_r18_3 hs) ?_
              refine rn_iload_n dX4_readOne_79 rfl rfl ?_
              refine rn_aaloadN dX4_readOne_80 (sk_l hs 20 (by decide)) (sk_k20 hs) (by omega) (by omega) ?_
              refine rn_topv (y := .ref (21 + 2 * sl)) (by rw [(sk_ds hs (k := sl) (by omega)).1]; rfl) ?_
              refine rn_callV0 (st := []) dX4_readOne_81 cf_4_76 (c_X4_readKept hs hT1 hB hS1 hsl8 hte.2 hA.2.2.2.2) (by omega) (sk_l hs 18 (by decide)) (sk_k18 hs) rfl rfl (Nat.le_of_ble_eq_true rfl) (fun r1 S1 I2 hq => ?_)
              have hq9 := hq
              obtain ⟨rfl, rfl, _⟩ := hq.r ((pE_4 ht).symm.trans hX)
              refine rn_ireturn dX4_readOne_84 rfl (by decide) ?_
              exact hX ▸ hq9.pre (hA.fn.fr sl) (hA.1 16 (by decide)) (pE_4 ht)
          · exact absurd c_54 (by decide)
        · exact absurd c_38 (by decide)
  by_cases ht : tK n B (tS n B p) = 5
  · skip
    rcases hX : pE n B Sh (k + 1) p with e | d
    · refine am_mt ⟨by decide +kernel, rfl⟩ (Nat.le_of_ble_eq_true rfl) rfl ?_
      refine rn_aload_n dX4_readOne_0 rfl rfl ?_
      refine rn_getR (r := 19) dX4_readOne_1 fd_4_24 (sk_l hs 18 (by decide)) (sk_k18 hs) rfl (sk_r18_1 hs) ?_
      refine rn_callV0 (st := []) dX4_readOne_4 cf_4_50 (c_X5_advance hs hT hB hp h4) (by omega) (sk_l hs 19 (by decide)) (sk_k19 hs) rfl rfl (Nat.le_of_ble_eq_true rfl) (fun r1 S1 I1 hq => ?_)
      obtain ⟨rfl, rfl, hA⟩ := hq
      have hT1 := (hA.fn.fr 0).tx hT
      have hS1 := (hA.fn.fr 0).sh hs hS
      refine rn_aload_n dX4_readOne_7 rfl rfl ?_
      refine rn_getR (r := 19) dX4_readOne_8 fd_4_24 (sk_l hs 18 (by decide)) (sk_k18 hs) rfl (sk_r18_1 hs) ?_
      refine rn_callVq (st := []) dX4_readOne_11 cf_4_68 (c_X5_wordFound hs hT1 hB hA.2.1 hA.2.2.2.2 hte.1 hte.2) (by omega) (sk_l hs 19 (by decide)) (sk_k19 hs) rfl rfl (Nat.le_of_ble_eq_true rfl) ?_
      refine rn_top (y := nI 2) (by rw [cW_tK, ht]; rfl) ?_
      refine rn_istore_n (ls' := [some (.ref 18), some (.int (nI (8 - (k + 1)))), some (.int (nI sl)), some (.int (nI 2)), none]) dX4_readOne_14 rfl (by decide) rfl rfl ?_
      refine rn_aload_n dX4_readOne_15 rfl rfl ?_
      refine rn_getR (r := 19) dX4_readOne_16 fd_4_24 (sk_l hs 18 (by decide)) (sk_k18 hs) rfl (sk_r18_1 hs) ?_
      refine rn_getI dX4_readOne_19 fd_4_57 (sk_l hs 19 (by decide)) (sk_k19 hs) rfl ?_
      refine rn_top (y := nI (tS n B p)) (hA.2.1) ?_
      refine rn_istore (ls' := [some (.ref 18), some (.int (nI (8 - (k + 1)))), some (.int (nI sl)), some (.int (nI 2)), some (.int (nI (tS n B p)))]) dX4_readOne_22 (by decide) rfl rfl ?_
      refine rn_iload_n dX4_readOne_24 rfl rfl ?_
      refine rn_if_ltN (tgt := 41) dX4_readOne_25 (by omega) (by decide) ?_
      refine rn_iload_n dX4_readOne_28 rfl rfl ?_
      refine rn_aload_n dX4_readOne_29 rfl rfl ?_
      refine rn_getR (r := 20) dX4_readOne_30 fd_4_30 (sk_l hs 18 (by decide)) (sk_k18 hs) rfl (sk_r18_3 hs) ?_
      refine rn_alenq dX4_readOne_33 (sk_l hs 20 (by decide)) (sk_k20 hs) ?_
      refine rn_icmp_geN (tgt := 41) dX4_readOne_34 (by decide) (by omega) (by omega) (fun c_34 => ?_) (fun c_34 => ?_)
      · omega
      · refine rn_iload_n dX4_readOne_37 rfl rfl ?_
        refine rn_if_neN (tgt := 52) dX4_readOne_38 (by decide) (by omega) (fun c_38 => ?_) (fun c_38 => ?_)
        · refine rn_iload_n dX4_readOne_52 rfl rfl ?_
          refine rn_iconst (v := nI 1) dX4_readOne_53 (by decide) ?_
          refine rn_icmp_neN (tgt := 68) dX4_readOne_54 (by decide) (by omega) (by omega) (fun c_54 => ?_) (fun c_54 => ?_)
          · refine rn_iload_n dX4_readOne_68 rfl rfl ?_
            refine rn_bipush (v := nI 9) dX4_readOne_69 (by decide) ?_
            refine rn_icmp_neN (tgt := 85) dX4_readOne_71 (by decide) (by omega) (by omega) (fun c_71 => ?_) (fun c_71 => ?_)
            · refine rn_iload_n dX4_readOne_85 rfl rfl ?_
              refine rn_bipush (v := nI 8) dX4_readOne_86 (by decide) ?_
              refine rn_icmp_ltN (tgt := 102) dX4_readOne_88 (by decide) (by omega) (by omega) (fun c_88 => ?_) (fun c_88 => ?_)
              · refine rn_iload_n dX4_readOne_102 rfl rfl ?_
                refine rn_tableIn (off := 41) (tgt := 144) dX4_readOne_103 (by decide) (by decide) (by decide) (by decide) ?_
                refine rn_aload_n dX4_readOne_144 rfl rfl ?_
                refine rn_iload_n dX4_readOne_145 rfl rfl ?_
                refine rn_iconst (v := nI 1) dX4_readOne_146 (by decide) ?_
                refine rn_iadd dX4_readOne_147 ?_
                refine rn_top (nI_add _ _) ?_
                refine rn_top (y := nI (8 - k)) (by congr 1; omega) ?_
                refine rn_iload_n dX4_readOne_148 rfl rfl ?_
                refine rn_iload dX4_readOne_149 rfl ?_
                refine rn_callV0 (st := []) dX4_readOne_151 cf_4_79 (c_X4_readSet hs hT1 hB hS1 hR (p := tE n B (tS n B p)) (s := tS n B p) hsl8 (by omega) hte.2 hA.2.2.2.2) (by omega) (sk_l hs 18 (by decide)) (sk_k18 hs) rfl rfl (Nat.le_of_ble_eq_true rfl) (fun r1 S1 I2 hq => ?_)
                have hq9 := hq
                obtain ⟨rfl, rfl, _⟩ := hq.l ((pE_5 ht).symm.trans hX)
                refine rn_ireturn dX4_readOne_154 rfl (by decide) ?_
                exact hX ▸ hq9.pre (hA.fn.fr sl) (hA.1 16 (by decide)) (pE_5 ht)
              · omega
            · exact absurd c_71 (by decide)
          · exact absurd c_54 (by decide)
        · exact absurd c_38 (by decide)
    · refine am_mt ⟨by decide +kernel, rfl⟩ (Nat.le_of_ble_eq_true rfl) rfl ?_
      refine rn_aload_n dX4_readOne_0 rfl rfl ?_
      refine rn_getR (r := 19) dX4_readOne_1 fd_4_24 (sk_l hs 18 (by decide)) (sk_k18 hs) rfl (sk_r18_1 hs) ?_
      refine rn_callV0 (st := []) dX4_readOne_4 cf_4_50 (c_X5_advance hs hT hB hp h4) (by omega) (sk_l hs 19 (by decide)) (sk_k19 hs) rfl rfl (Nat.le_of_ble_eq_true rfl) (fun r1 S1 I1 hq => ?_)
      obtain ⟨rfl, rfl, hA⟩ := hq
      have hT1 := (hA.fn.fr 0).tx hT
      have hS1 := (hA.fn.fr 0).sh hs hS
      refine rn_aload_n dX4_readOne_7 rfl rfl ?_
      refine rn_getR (r := 19) dX4_readOne_8 fd_4_24 (sk_l hs 18 (by decide)) (sk_k18 hs) rfl (sk_r18_1 hs) ?_
      refine rn_callVq (st := []) dX4_readOne_11 cf_4_68 (c_X5_wordFound hs hT1 hB hA.2.1 hA.2.2.2.2 hte.1 hte.2) (by omega) (sk_l hs 19 (by decide)) (sk_k19 hs) rfl rfl (Nat.le_of_ble_eq_true rfl) ?_
      refine rn_top (y := nI 2) (by rw [cW_tK, ht]; rfl) ?_
      refine rn_istore_n (ls' := [some (.ref 18), some (.int (nI (8 - (k + 1)))), some (.int (nI sl)), some (.int (nI 2)), none]) dX4_readOne_14 rfl (by decide) rfl rfl ?_
      refine rn_aload_n dX4_readOne_15 rfl rfl ?_
      refine rn_getR (r := 19) dX4_readOne_16 fd_4_24 (sk_l hs 18 (by decide)) (sk_k18 hs) rfl (sk_r18_1 hs) ?_
      refine rn_getI dX4_readOne_19 fd_4_57 (sk_l hs 19 (by decide)) (sk_k19 hs) rfl ?_
      refine rn_top (y := nI (tS n B p)) (hA.2.1) ?_
      refine rn_istore (ls' := [some (.ref 18), some (.int (nI (8 - (k + 1)))), some (.int (nI sl)), some (.int (nI 2)), some (.int (nI (tS n B p)))]) dX4_readOne_22 (by decide) rfl rfl ?_
      refine rn_iload_n dX4_readOne_24 rfl rfl ?_
      refine rn_if_ltN (tgt := 41) dX4_readOne_25 (by omega) (by decide) ?_
      refine rn_iload_n dX4_readOne_28 rfl rfl ?_
      refine rn_aload_n dX4_readOne_29 rfl rfl ?_
      refine rn_getR (r := 20) dX4_readOne_30 fd_4_30 (sk_l hs 18 (by decide)) (sk_k18 hs) rfl (sk_r18_3 hs) ?_
      refine rn_alenq dX4_readOne_33 (sk_l hs 20 (by decide)) (sk_k20 hs) ?_
      refine rn_icmp_geN (tgt := 41) dX4_readOne_34 (by decide) (by omega) (by omega) (fun c_34 => ?_) (fun c_34 => ?_)
      · omega
      · refine rn_iload_n dX4_readOne_37 rfl rfl ?_
        refine rn_if_neN (tgt := 52) dX4_readOne_38 (by decide) (by omega) (fun c_38 => ?_) (fun c_38 => ?_)
        · refine rn_iload_n dX4_readOne_52 rfl rfl ?_
          refine rn_iconst (v := nI 1) dX4_readOne_53 (by decide) ?_
          refine rn_icmp_neN (tgt := 68) dX4_readOne_54 (by decide) (by omega) (by omega) (fun c_54 => ?_) (fun c_54 => ?_)
          · refine rn_iload_n dX4_readOne_68 rfl rfl ?_
            refine rn_bipush (v := nI 9) dX4_readOne_69 (by decide) ?_
            refine rn_icmp_neN (tgt := 85) dX4_readOne_71 (by decide) (by omega) (by omega) (fun c_71 => ?_) (fun c_71 => ?_)
            · refine rn_iload_n dX4_readOne_85 rfl rfl ?_
              refine rn_bipush (v := nI 8) dX4_readOne_86 (by decide) ?_
              refine rn_icmp_ltN (tgt := 102) dX4_readOne_88 (by decide) (by omega) (by omega) (fun c_88 => ?_) (fun c_88 => ?_)
              · refine rn_iload_n dX4_readOne_102 rfl rfl ?_
                refine rn_tableIn (off := 41) (tgt := 144) dX4_readOne_103 (by decide) (by decide) (by decide) (by decide) ?_
                refine rn_aload_n dX4_readOne_144 rfl rfl ?_
                refine rn_iload_n dX4_readOne_145 rfl rfl ?_
                refine rn_iconst (v := nI 1) dX4_readOne_146 (by decide) ?_
                refine rn_iadd dX4_readOne_147 ?_
                refine rn_top (nI_add _ _) ?_
                refine rn_top (y := nI (8 - k)) (by congr 1; omega) ?_
                refine rn_iload_n dX4_readOne_148 rfl rfl ?_
                refine rn_iload dX4_readOne_149 rfl ?_
                refine rn_callV0 (st := []) dX4_readOne_151 cf_4_79 (c_X4_readSet hs hT1 hB hS1 hR (p := tE n B (tS n B p)) (s := tS n B p) hsl8 (by omega) hte.2 hA.2.2.2.2) (by omega) (sk_l hs 18 (by decide)) (sk_k18 hs) rfl rfl (Nat.le_of_ble_eq_true rfl) (fun r1 S1 I2 hq => ?_)
                have hq9 := hq
                obtain ⟨rfl, rfl, _⟩ := hq.r ((pE_5 ht).symm.trans hX)
                refine rn_ireturn dX4_readOne_154 rfl (by decide) ?_
                exact hX ▸ hq9.pre (hA.fn.fr sl) (hA.1 16 (by decide)) (pE_5 ht)
              · omega
            · exact absurd c_71 (by decide)
          · exact absurd c_54 (by decide)
        · exact absurd c_38 (by decide)
  by_cases ht : tK n B (tS n B p) = 6
  · skip
    rcases hX : pE n B Sh (k + 1) p with e | d
    · refine am_mt ⟨by decide +kernel, rfl⟩ (Nat.le_of_ble_eq_true rfl) rfl ?_
      refine rn_aload_n dX4_readOne_0 rfl rfl ?_
      refine rn_getR (r := 19) dX4_readOne_1 fd_4_24 (sk_l hs 18 (by decide)) (sk_k18 hs) rfl (sk_r18_1 hs) ?_
      refine rn_callV0 (st := []) dX4_readOne_4 cf_4_50 (c_X5_advance hs hT hB hp h4) (by omega) (sk_l hs 19 (by decide)) (sk_k19 hs) rfl rfl (Nat.le_of_ble_eq_true rfl) (fun r1 S1 I1 hq => ?_)
      obtain ⟨rfl, rfl, hA⟩ := hq
      have hT1 := (hA.fn.fr 0).tx hT
      have hS1 := (hA.fn.fr 0).sh hs hS
      refine rn_aload_n dX4_readOne_7 rfl rfl ?_
      refine rn_getR (r := 19) dX4_readOne_8 fd_4_24 (sk_l hs 18 (by decide)) (sk_k18 hs) rfl (sk_r18_1 hs) ?_
      refine rn_callVq (st := []) dX4_readOne_11 cf_4_68 (c_X5_wordFound hs hT1 hB hA.2.1 hA.2.2.2.2 hte.1 hte.2) (by omega) (sk_l hs 19 (by decide)) (sk_k19 hs) rfl rfl (Nat.le_of_ble_eq_true rfl) ?_
      refine rn_top (y := nI 3) (by rw [cW_tK, ht]; rfl) ?_
      refine rn_istore_n (ls' := [some (.ref 18), some (.int (nI (8 - (k + 1)))), some (.int (nI sl)), some (.int (nI 3)), none]) dX4_readOne_14 rfl (by decide) rfl rfl ?_
      refine rn_aload_n dX4_readOne_15 rfl rfl ?_
      refine rn_getR (r := 19) dX4_readOne_16 fd_4_24 (sk_l hs 18 (by decide)) (sk_k18 hs) rfl (sk_r18_1 hs) ?_
      refine rn_getI dX4_readOne_19 fd_4_57 (sk_l hs 19 (by decide)) (sk_k19 hs) rfl ?_
      refine rn_top (y := nI (tS n B p)) (hA.2.1) ?_
      refine rn_istore (ls' := [some (.ref 18), some (.int (nI (8 - (k + 1)))), some (.int (nI sl)), some (.int (nI 3)), some (.int (nI (tS n B p)))]) dX4_readOne_22 (by decide) rfl rfl ?_
      refine rn_iload_n dX4_readOne_24 rfl rfl ?_
      refine rn_if_ltN (tgt := 41) dX4_readOne_25 (by omega) (by decide) ?_
      refine rn_iload_n dX4_readOne_28 rfl rfl ?_
      refine rn_aload_n dX4_readOne_29 rfl rfl ?_
      refine rn_getR (r := 20) dX4_readOne_30 fd_4_30 (sk_l hs 18 (by decide)) (sk_k18 hs) rfl (sk_r18_3 hs) ?_
      refine rn_alenq dX4_readOne_33 (sk_l hs 20 (by decide)) (sk_k20 hs) ?_
      refine rn_icmp_geN (tgt := 41) dX4_readOne_34 (by decide) (by omega) (by omega) (fun c_34 => ?_) (fun c_34 => ?_)
      · omega
      · refine rn_iload_n dX4_readOne_37 rfl rfl ?_
        refine rn_if_neN (tgt := 52) dX4_readOne_38 (by decide) (by omega) (fun c_38 => ?_) (fun c_38 => ?_)
        · refine rn_iload_n dX4_readOne_52 rfl rfl ?_
          refine rn_iconst (v := nI 1) dX4_readOne_53 (by decide) ?_
          refine rn_icmp_neN (tgt := 68) dX4_readOne_54 (by decide) (by omega) (by omega) (fun c_54 => ?_) (fun c_54 => ?_)
          · refine rn_iload_n dX4_readOne_68 rfl rfl ?_
            refine rn_bipush (v := nI 9) dX4_readOne_69 (by decide) ?_
            refine rn_icmp_neN (tgt := 85) dX4_readOne_71 (by decide) (by omega) (by omega) (fun c_71 => ?_) (fun c_71 => ?_)
            · refine rn_iload_n dX4_readOne_85 rfl rfl ?_
              refine rn_bipush (v := nI 8) dX4_readOne_86 (by decide) ?_
              refine rn_icmp_ltN (tgt := 102) dX4_readOne_88 (by decide) (by omega) (by omega) (fun c_88 => ?_) (fun c_88 => ?_)
              · refine rn_iload_n dX4_readOne_102 rfl rfl ?_
                refine rn_tableIn (off := 63) (tgt := 166) dX4_readOne_103 (by decide) (by decide) (by decide) (by decide) ?_
                refine rn_aload_n dX4_readOne_166 rfl rfl ?_
                refine rn_iload_n dX4_readOne_167 rfl rfl ?_
                refine rn_iconst (v := nI 1) dX4_readOne_168 (by decide) ?_
                refine rn_iadd dX4_readOne_169 ?_
                refine rn_top (nI_add _ _) ?_
                refine rn_top (y := nI (8 - k)) (by congr 1; omega) ?_
                refine rn_iload_n dX4_readOne_170 rfl rfl ?_
                refine rn_iload_n dX4_readOne_171 rfl rfl ?_
                refine rn_callV0 (st := []) dX4_readOne_172 cf_4_86 (c_X4_readTurned_3 hs hT1 hB hS1 hR (p := tE n B (tS n B p)) hsl8 (by omega) hte.2 hA.2.2.2.2) (by omega) (sk_l hs 18 (by decide)) (sk_k18 hs) rfl rfl (Nat.le_of_ble_eq_true rfl) (fun r1 S1 I2 hq => ?_)
                have hq9 := hq
                obtain ⟨rfl, rfl, _⟩ := hq.l ((pE_6 ht).symm.trans hX)
                refine rn_ireturn dX4_readOne_175 rfl (by decide) ?_
                exact hX ▸ hq9.pre (hA.fn.fr sl) (hA.1 16 (by decide)) (pE_6 ht)
              · omega
            · exact absurd c_71 (by decide)
          · exact absurd c_54 (by decide)
        · exact absurd c_38 (by decide)
    · refine am_mt ⟨by decide +kernel, rfl⟩ (Nat.le_of_ble_eq_true rfl) rfl ?_
      refine rn_aload_n dX4_readOne_0 rfl rfl ?_
      refine rn_getR (r := 19) dX4_readOne_1 fd_4_24 (sk_l hs 18 (by decide)) (sk_k18 hs) rfl (sk_r18_1 hs) ?_
      refine rn_callV0 (st := []) dX4_readOne_4 cf_4_50 (c_X5_advance hs hT hB hp h4) (by omega) (sk_l hs 19 (by decide)) (sk_k19 hs) rfl rfl (Nat.le_of_ble_eq_true rfl) (fun r1 S1 I1 hq => ?_)
      obtain ⟨rfl, rfl, hA⟩ := hq
      have hT1 := (hA.fn.fr 0).tx hT
      have hS1 := (hA.fn.fr 0).sh hs hS
      refine rn_aload_n dX4_readOne_7 rfl rfl ?_
      refine rn_getR (r := 19) dX4_readOne_8 fd_4_24 (sk_l hs 18 (by decide)) (sk_k18 hs) rfl (sk_r18_1 hs) ?_
      refine rn_callVq (st := []) dX4_readOne_11 cf_4_68 (c_X5_wordFound hs hT1 hB hA.2.1 hA.2.2.2.2 hte.1 hte.2) (by omega) (sk_l hs 19 (by decide)) (sk_k19 hs) rfl rfl (Nat.le_of_ble_eq_true rfl) ?_
      refine rn_top (y := nI 3) (by rw [cW_tK, ht]; rfl) ?_
      refine rn_istore_n (ls' := [some (.ref 18), some (.int (nI (8 - (k + 1)))), some (.int (nI sl)), some (.int (nI 3)), none]) dX4_readOne_14 rfl (by decide) rfl rfl ?_
      refine rn_aload_n dX4_readOne_15 rfl rfl ?_
      refine rn_getR (r := 19) dX4_readOne_16 fd_4_24 (sk_l hs 18 (by decide)) (sk_k18 hs) rfl (sk_r18_1 hs) ?_
      refine rn_getI dX4_readOne_19 fd_4_57 (sk_l hs 19 (by decide)) (sk_k19 hs) rfl ?_
      refine rn_top (y := nI (tS n B p)) (hA.2.1) ?_
      refine rn_istore (ls' := [some (.ref 18), some (.int (nI (8 - (k + 1)))), some (.int (nI sl)), some (.int (nI 3)), some (.int (nI (tS n B p)))]) dX4_readOne_22 (by decide) rfl rfl ?_
      refine rn_iload_n dX4_readOne_24 rfl rfl ?_
      refine rn_if_ltN (tgt := 41) dX4_readOne_25 (by omega) (by decide) ?_
      refine rn_iload_n dX4_readOne_28 rfl rfl ?_
      refine rn_aload_n dX4_readOne_29 rfl rfl ?_
      refine rn_getR (r := 20) dX4_readOne_30 fd_4_30 (sk_l hs 18 (by decide)) (sk_k18 hs) rfl (sk_r18_3 hs) ?_
      refine rn_alenq dX4_readOne_33 (sk_l hs 20 (by decide)) (sk_k20 hs) ?_
      refine rn_icmp_geN (tgt := 41) dX4_readOne_34 (by decide) (by omega) (by omega) (fun c_34 => ?_) (fun c_34 => ?_)
      · omega
      · refine rn_iload_n dX4_readOne_37 rfl rfl ?_
        refine rn_if_neN (tgt := 52) dX4_readOne_38 (by decide) (by omega) (fun c_38 => ?_) (fun c_38 => ?_)
        · refine rn_iload_n dX4_readOne_52 rfl rfl ?_
          refine rn_iconst (v := nI 1) dX4_readOne_53 (by decide) ?_
          refine rn_icmp_neN (tgt := 68) dX4_readOne_54 (by decide) (by omega) (by omega) (fun c_54 => ?_) (fun c_54 => ?_)
          · refine rn_iload_n dX4_readOne_68 rfl rfl ?_
            refine rn_bipush (v := nI 9) dX4_readOne_69 (by decide) ?_
            refine rn_icmp_neN (tgt := 85) dX4_readOne_71 (by decide) (by omega) (by omega) (fun c_71 => ?_) (fun c_71 => ?_)
            · refine rn_iload_n dX4_readOne_85 rfl rfl ?_
              refine rn_bipush (v := nI 8) dX4_readOne_86 (by decide) ?_
              refine rn_icmp_ltN (tgt := 102) dX4_readOne_88 (by decide) (by omega) (by omega) (fun c_88 => ?_) (fun c_88 => ?_)
              · refine rn_iload_n dX4_readOne_102 rfl rfl ?_
                refine rn_tableIn (off := 63) (tgt := 166) dX4_readOne_103 (by decide) (by decide) (by decide) (by decide) ?_
                refine rn_aload_n dX4_readOne_166 rfl rfl ?_
                refine rn_iload_n dX4_readOne_167 rfl rfl ?_
                refine rn_iconst (v := nI 1) dX4_readOne_168 (by decide) ?_
                refine rn_iadd dX4_readOne_169 ?_
                refine rn_top (nI_add _ _) ?_
                refine rn_top (y := nI (8 - k)) (by congr 1; omega) ?_
                refine rn_iload_n dX4_readOne_170 rfl rfl ?_
                refine rn_iload_n dX4_readOne_171 rfl rfl ?_
                refine rn_callV0 (st := []) dX4_readOne_172 cf_4_86 (c_X4_readTurned_3 hs hT1 hB hS1 hR (p := tE n B (tS n B p)) hsl8 (by omega) hte.2 hA.2.2.2.2) (by omega) (sk_l hs 18 (by decide)) (sk_k18 hs) rfl rfl (Nat.le_of_ble_eq_true rfl) (fun r1 S1 I2 hq => ?_)
                have hq9 := hq
                obtain ⟨rfl, rfl, _⟩ := hq.r ((pE_6 ht).symm.trans hX)
                refine rn_ireturn dX4_readOne_175 rfl (by decide) ?_
                exact hX ▸ hq9.pre (hA.fn.fr sl) (hA.1 16 (by decide)) (pE_6 ht)
              · omega
            · exact absurd c_71 (by decide)
          · exact absurd c_54 (by decide)
        · exact absurd c_38 (by decide)
  by_cases ht : tK n B (tS n B p) = 7
  · skip
    rcases hX : pE n B Sh (k + 1) p with e | d
    · refine am_mt ⟨by decide +kernel, rfl⟩ (Nat.le_of_ble_eq_true rfl) rfl ?_
      refine rn_aload_n dX4_readOne_0 rfl rfl ?_
      refine rn_getR (r := 19) dX4_readOne_1 fd_4_24 (sk_l hs 18 (by decide)) (sk_k18 hs) rfl (sk_r18_1 hs) ?_
      refine rn_callV0 (st := []) dX4_readOne_4 cf_4_50 (c_X5_advance hs hT hB hp h4) (by omega) (sk_l hs 19 (by decide)) (sk_k19 hs) rfl rfl (Nat.le_of_ble_eq_true rfl) (fun r1 S1 I1 hq => ?_)
      obtain ⟨rfl, rfl, hA⟩ := hq
      have hT1 := (hA.fn.fr 0).tx hT
      have hS1 := (hA.fn.fr 0).sh hs hS
      refine rn_aload_n dX4_readOne_7 rfl rfl ?_
      refine rn_getR (r := 19) dX4_readOne_8 fd_4_24 (sk_l hs 18 (by decide)) (sk_k18 hs) rfl (sk_r18_1 hs) ?_
      refine rn_callVq (st := []) dX4_readOne_11 cf_4_68 (c_X5_wordFound hs hT1 hB hA.2.1 hA.2.2.2.2 hte.1 hte.2) (by omega) (sk_l hs 19 (by decide)) (sk_k19 hs) rfl rfl (Nat.le_of_ble_eq_true rfl) ?_
      refine rn_top (y := nI 4) (by rw [cW_tK, ht]; rfl) ?_
      refine rn_istore_n (ls' := [some (.ref 18), some (.int (nI (8 - (k + 1)))), some (.int (nI sl)), some (.int (nI 4)), none]) dX4_readOne_14 rfl (by decide) rfl rfl ?_
      refine rn_aload_n dX4_readOne_15 rfl rfl ?_
      refine rn_getR (r := 19) dX4_readOne_16 fd_4_24 (sk_l hs 18 (by decide)) (sk_k18 hs) rfl (sk_r18_1 hs) ?_
      refine rn_getI dX4_readOne_19 fd_4_57 (sk_l hs 19 (by decide)) (sk_k19 hs) rfl ?_
      refine rn_top (y := nI (tS n B p)) (hA.2.1) ?_
      refine rn_istore (ls' := [some (.ref 18), some (.int (nI (8 - (k + 1)))), some (.int (nI sl)), some (.int (nI 4)), some (.int (nI (tS n B p)))]) dX4_readOne_22 (by decide) rfl rfl ?_
      refine rn_iload_n dX4_readOne_24 rfl rfl ?_
      refine rn_if_ltN (tgt := 41) dX4_readOne_25 (by omega) (by decide) ?_
      refine rn_iload_n dX4_readOne_28 rfl rfl ?_
      refine rn_aload_n dX4_readOne_29 rfl rfl ?_
      refine rn_getR (r := 20) dX4_readOne_30 fd_4_30 (sk_l hs 18 (by decide)) (sk_k18 hs) rfl (sk_r18_3 hs) ?_
      refine rn_alenq dX4_readOne_33 (sk_l hs 20 (by decide)) (sk_k20 hs) ?_
      refine rn_icmp_geN (tgt := 41) dX4_readOne_34 (by decide) (by omega) (by omega) (fun c_34 => ?_) (fun c_34 => ?_)
      · omega
      · refine rn_iload_n dX4_readOne_37 rfl rfl ?_
        refine rn_if_neN (tgt := 52) dX4_readOne_38 (by decide) (by omega) (fun c_38 => ?_) (fun c_38 => ?_)
        · refine rn_iload_n dX4_readOne_52 rfl rfl ?_
          refine rn_iconst (v := nI 1) dX4_readOne_53 (by decide) ?_
          refine rn_icmp_neN (tgt := 68) dX4_readOne_54 (by decide) (by omega) (by omega) (fun c_54 => ?_) (fun c_54 => ?_)
          · refine rn_iload_n dX4_readOne_68 rfl rfl ?_
            refine rn_bipush (v := nI 9) dX4_readOne_69 (by decide) ?_
            refine rn_icmp_neN (tgt := 85) dX4_readOne_71 (by decide) (by omega) (by omega) (fun c_71 => ?_) (fun c_71 => ?_)
            · refine rn_iload_n dX4_readOne_85 rfl rfl ?_
              refine rn_bipush (v := nI 8) dX4_readOne_86 (by decide) ?_
              refine rn_icmp_ltN (tgt := 102) dX4_readOne_88 (by decide) (by omega) (by omega) (fun c_88 => ?_) (fun c_88 => ?_)
              · refine rn_iload_n dX4_readOne_102 rfl rfl ?_
                refine rn_tableIn (off := 63) (tgt := 166) dX4_readOne_103 (by decide) (by decide) (by decide) (by decide) ?_
                refine rn_aload_n dX4_readOne_166 rfl rfl ?_
                refine rn_iload_n dX4_readOne_167 rfl rfl ?_
                refine rn_iconst (v := nI 1) dX4_readOne_168 (by decide) ?_
                refine rn_iadd dX4_readOne_169 ?_
                refine rn_top (nI_add _ _) ?_
                refine rn_top (y := nI (8 - k)) (by congr 1; omega) ?_
                refine rn_iload_n dX4_readOne_170 rfl rfl ?_
                refine rn_iload_n dX4_readOne_171 rfl rfl ?_
                refine rn_callV0 (st := []) dX4_readOne_172 cf_4_86 (c_X4_readTurned_4 hs hT1 hB hS1 hR (p := tE n B (tS n B p)) hsl8 (by omega) hte.2 hA.2.2.2.2) (by omega) (sk_l hs 18 (by decide)) (sk_k18 hs) rfl rfl (Nat.le_of_ble_eq_true rfl) (fun r1 S1 I2 hq => ?_)
                have hq9 := hq
                obtain ⟨rfl, rfl, _⟩ := hq.l ((pE_7 ht).symm.trans hX)
                refine rn_ireturn dX4_readOne_175 rfl (by decide) ?_
                exact hX ▸ hq9.pre (hA.fn.fr sl) (hA.1 16 (by decide)) (pE_7 ht)
              · omega
            · exact absurd c_71 (by decide)
          · exact absurd c_54 (by decide)
        · exact absurd c_38 (by decide)
    · refine am_mt ⟨by decide +kernel, rfl⟩ (Nat.le_of_ble_eq_true rfl) rfl ?_
      refine rn_aload_n dX4_readOne_0 rfl rfl ?_
      refine rn_getR (r := 19) dX4_readOne_1 fd_4_24 (sk_l hs 18 (by decide)) (sk_k18 hs) rfl (sk_r18_1 hs) ?_
      refine rn_callV0 (st := []) dX4_readOne_4 cf_4_50 (c_X5_advance hs hT hB hp h4) (by omega) (sk_l hs 19 (by decide)) (sk_k19 hs) rfl rfl (Nat.le_of_ble_eq_true rfl) (fun r1 S1 I1 hq => ?_)
      obtain ⟨rfl, rfl, hA⟩ := hq
      have hT1 := (hA.fn.fr 0).tx hT
      have hS1 := (hA.fn.fr 0).sh hs hS
      refine rn_aload_n dX4_readOne_7 rfl rfl ?_
      refine rn_getR (r := 19) dX4_readOne_8 fd_4_24 (sk_l hs 18 (by decide)) (sk_k18 hs) rfl (sk_r18_1 hs) ?_
      refine rn_callVq (st := []) dX4_readOne_11 cf_4_68 (c_X5_wordFound hs hT1 hB hA.2.1 hA.2.2.2.2 hte.1 hte.2) (by omega) (sk_l hs 19 (by decide)) (sk_k19 hs) rfl rfl (Nat.le_of_ble_eq_true rfl) ?_
      refine rn_top (y := nI 4) (by rw [cW_tK, ht]; rfl) ?_
      refine rn_istore_n (ls' := [some (.ref 18), some (.int (nI (8 - (k + 1)))), some (.int (nI sl)), some (.int (nI 4)), none]) dX4_readOne_14 rfl (by decide) rfl rfl ?_
      refine rn_aload_n dX4_readOne_15 rfl rfl ?_
      refine rn_getR (r := 19) dX4_readOne_16 fd_4_24 (sk_l hs 18 (by decide)) (sk_k18 hs) rfl (sk_r18_1 hs) ?_
      refine rn_getI dX4_readOne_19 fd_4_57 (sk_l hs 19 (by decide)) (sk_k19 hs) rfl ?_
      refine rn_top (y := nI (tS n B p)) (hA.2.1) ?_
      refine rn_istore (ls' := [some (.ref 18), some (.int (nI (8 - (k + 1)))), some (.int (nI sl)), some (.int (nI 4)), some (.int (nI (tS n B p)))]) dX4_readOne_22 (by decide) rfl rfl ?_
      refine rn_iload_n dX4_readOne_24 rfl rfl ?_
      refine rn_if_ltN (tgt := 41) dX4_readOne_25 (by omega) (by decide) ?_
      refine rn_iload_n dX4_readOne_28 rfl rfl ?_
      refine rn_aload_n dX4_readOne_29 rfl rfl ?_
      refine rn_getR (r := 20) dX4_readOne_30 fd_4_30 (sk_l hs 18 (by decide)) (sk_k18 hs) rfl (sk_r18_3 hs) ?_
      refine rn_alenq dX4_readOne_33 (sk_l hs 20 (by decide)) (sk_k20 hs) ?_
      refine rn_icmp_geN (tgt := 41) dX4_readOne_34 (by decide) (by omega) (by omega) (fun c_34 => ?_) (fun c_34 => ?_)
      · omega
      · refine rn_iload_n dX4_readOne_37 rfl rfl ?_
        refine rn_if_neN (tgt := 52) dX4_readOne_38 (by decide) (by omega) (fun c_38 => ?_) (fun c_38 => ?_)
        · refine rn_iload_n dX4_readOne_52 rfl rfl ?_
          refine rn_iconst (v := nI 1) dX4_readOne_53 (by decide) ?_
          refine rn_icmp_neN (tgt := 68) dX4_readOne_54 (by decide) (by omega) (by omega) (fun c_54 => ?_) (fun c_54 => ?_)
          · refine rn_iload_n dX4_readOne_68 rfl rfl ?_
            refine rn_bipush (v := nI 9) dX4_readOne_69 (by decide) ?_
            refine rn_icmp_neN (tgt := 85) dX4_readOne_71 (by decide) (by omega) (by omega) (fun c_71 => ?_) (fun c_71 => ?_)
            · refine rn_iload_n dX4_readOne_85 rfl rfl ?_
              refine rn_bipush (v := nI 8) dX4_readOne_86 (by decide) ?_
              refine rn_icmp_ltN (tgt := 102) dX4_readOne_88 (by decide) (by omega) (by omega) (fun c_88 => ?_) (fun c_88 => ?_)
              · refine rn_iload_n dX4_readOne_102 rfl rfl ?_
                refine rn_tableIn (off := 63) (tgt := 166) dX4_readOne_103 (by decide) (by decide) (by decide) (by decide) ?_
                refine rn_aload_n dX4_readOne_166 rfl rfl ?_
                refine rn_iload_n dX4_readOne_167 rfl rfl ?_
                refine rn_iconst (v := nI 1) dX4_readOne_168 (by decide) ?_
                refine rn_iadd dX4_readOne_169 ?_
                refine rn_top (nI_add _ _) ?_
                refine rn_top (y := nI (8 - k)) (by congr 1; omega) ?_
                refine rn_iload_n dX4_readOne_170 rfl rfl ?_
                refine rn_iload_n dX4_readOne_171 rfl rfl ?_
                refine rn_callV0 (st := []) dX4_readOne_172 cf_4_86 (c_X4_readTurned_4 hs hT1 hB hS1 hR (p := tE n B (tS n B p)) hsl8 (by omega) hte.2 hA.2.2.2.2) (by omega) (sk_l hs 18 (by decide)) (sk_k18 hs) rfl rfl (Nat.le_of_ble_eq_true rfl) (fun r1 S1 I2 hq => ?_)
                have hq9 := hq
                obtain ⟨rfl, rfl, _⟩ := hq.r ((pE_7 ht).symm.trans hX)
                refine rn_ireturn dX4_readOne_175 rfl (by decide) ?_
                exact hX ▸ hq9.pre (hA.fn.fr sl) (hA.1 16 (by decide)) (pE_7 ht)
              · omega
            · exact absurd c_71 (by decide)
          · exact absurd c_54 (by decide)
        · exact absurd c_38 (by decide)
  by_cases ht : tK n B (tS n B p) = 8
  · skip
    rcases hX : pE n B Sh (k + 1) p with e | d
    · refine am_mt ⟨by decide +kernel, rfl⟩ (Nat.le_of_ble_eq_true rfl) rfl ?_
      refine rn_aload_n dX4_readOne_0 rfl rfl ?_
      refine rn_getR (r := 19) dX4_readOne_1 fd_4_24 (sk_l hs 18 (by decide)) (sk_k18 hs) rfl (sk_r18_1 hs) ?_
      refine rn_callV0 (st := []) dX4_readOne_4 cf_4_50 (c_X5_advance hs hT hB hp h4) (by omega) (sk_l hs 19 (by decide)) (sk_k19 hs) rfl rfl (Nat.le_of_ble_eq_true rfl) (fun r1 S1 I1 hq => ?_)
      obtain ⟨rfl, rfl, hA⟩ := hq
      have hT1 := (hA.fn.fr 0).tx hT
      have hS1 := (hA.fn.fr 0).sh hs hS
      refine rn_aload_n dX4_readOne_7 rfl rfl ?_
      refine rn_getR (r := 19) dX4_readOne_8 fd_4_24 (sk_l hs 18 (by decide)) (sk_k18 hs) rfl (sk_r18_1 hs) ?_
      refine rn_callVq (st := []) dX4_readOne_11 cf_4_68 (c_X5_wordFound hs hT1 hB hA.2.1 hA.2.2.2.2 hte.1 hte.2) (by omega) (sk_l hs 19 (by decide)) (sk_k19 hs) rfl rfl (Nat.le_of_ble_eq_true rfl) ?_
      refine rn_top (y := nI 8) (by rw [cW_tK, ht]; rfl) ?_
      refine rn_istore_n (ls' := [some (.ref 18), some (.int (nI (8 - (k + 1)))), some (.int (nI sl)), some (.int (nI 8)), none]) dX4_readOne_14 rfl (by decide) rfl rfl ?_
      refine rn_aload_n dX4_readOne_15 rfl rfl ?_
      refine rn_getR (r := 19) dX4_readOne_16 fd_4_24 (sk_l hs 18 (by decide)) (sk_k18 hs) rfl (sk_r18_1 hs) ?_
      refine rn_getI dX4_readOne_19 fd_4_57 (sk_l hs 19 (by decide)) (sk_k19 hs) rfl ?_
      refine rn_top (y := nI (tS n B p)) (hA.2.1) ?_
      refine rn_istore (ls' := [some (.ref 18), some (.int (nI (8 - (k + 1)))), some (.int (nI sl)), some (.int (nI 8)), some (.int (nI (tS n B p)))]) dX4_readOne_22 (by decide) rfl rfl ?_
      refine rn_iload_n dX4_readOne_24 rfl rfl ?_
      refine rn_if_ltN (tgt := 41) dX4_readOne_25 (by omega) (by decide) ?_
      refine rn_iload_n dX4_readOne_28 rfl rfl ?_
      refine rn_aload_n dX4_readOne_29 rfl rfl ?_
      refine rn_getR (r := 20) dX4_readOne_30 fd_4_30 (sk_l hs 18 (by decide)) (sk_k18 hs) rfl (sk_r18_3 hs) ?_
      refine rn_alenq dX4_readOne_33 (sk_l hs 20 (by decide)) (sk_k20 hs) ?_
      refine rn_icmp_geN (tgt := 41) dX4_readOne_34 (by decide) (by omega) (by omega) (fun c_34 => ?_) (fun c_34 => ?_)
      · omega
      · refine rn_iload_n dX4_readOne_37 rfl rfl ?_
        refine rn_if_neN (tgt := 52) dX4_readOne_38 (by decide) (by omega) (fun c_38 => ?_) (fun c_38 => ?_)
        · refine rn_iload_n dX4_readOne_52 rfl rfl ?_
          refine rn_iconst (v := nI 1) dX4_readOne_53 (by decide) ?_
          refine rn_icmp_neN (tgt := 68) dX4_readOne_54 (by decide) (by omega) (by omega) (fun c_54 => ?_) (fun c_54 => ?_)
          · refine rn_iload_n dX4_readOne_68 rfl rfl ?_
            refine rn_bipush (v := nI 9) dX4_readOne_69 (by decide) ?_
            refine rn_icmp_neN (tgt := 85) dX4_readOne_71 (by decide) (by omega) (by omega) (fun c_71 => ?_) (fun c_71 => ?_)
            · refine rn_iload_n dX4_readOne_85 rfl rfl ?_
              refine rn_bipush (v := nI 8) dX4_readOne_86 (by decide) ?_
              refine rn_icmp_ltN (tgt := 102) dX4_readOne_88 (by decide) (by omega) (by omega) (fun c_88 => ?_) (fun c_88 => ?_)
              · refine rn_iload_n dX4_readOne_102 rfl rfl ?_
                refine rn_tableIn (off := 52) (tgt := 155) dX4_readOne_103 (by decide) (by decide) (by decide) (by decide) ?_
                refine rn_aload_n dX4_readOne_155 rfl rfl ?_
                refine rn_iload_n dX4_readOne_156 rfl rfl ?_
                refine rn_iconst (v := nI 1) dX4_readOne_157 (by decide) ?_
                refine rn_iadd dX4_readOne_158 ?_
                refine rn_top (nI_add _ _) ?_
                refine rn_top (y := nI (8 - k)) (by congr 1; omega) ?_
                refine rn_iload_n dX4_readOne_159 rfl rfl ?_
                refine rn_iload dX4_readOne_160 rfl ?_
                refine rn_callV0 (st := []) dX4_readOne_162 cf_4_83 (c_X4_readRow hs hT1 hB hS1 hR (p := tE n B (tS n B p)) (s := tS n B p) hsl8 (by omega) hte.2 hA.2.2.2.2) (by omega) (sk_l hs 18 (by decide)) (sk_k18 hs) rfl rfl (Nat.le_of_ble_eq_true rfl) (fun r1 S1 I2 hq => ?_)
                have hq9 := hq
                obtain ⟨rfl, rfl, _⟩ := hq.l ((pE_8 ht).symm.trans hX)
                refine rn_ireturn dX4_readOne_165 rfl (by decide) ?_
                exact hX ▸ hq9.pre (hA.fn.fr sl) (hA.1 16 (by decide)) (pE_8 ht)
              · omega
            · exact absurd c_71 (by decide)
          · exact absurd c_54 (by decide)
        · exact absurd c_38 (by decide)
    · refine am_mt ⟨by decide +kernel, rfl⟩ (Nat.le_of_ble_eq_true rfl) rfl ?_
      refine rn_aload_n dX4_readOne_0 rfl rfl ?_
      refine rn_getR (r := 19) dX4_readOne_1 fd_4_24 (sk_l hs 18 (by decide)) (sk_k18 hs) rfl (sk_r18_1 hs) ?_
      refine rn_callV0 (st := []) dX4_readOne_4 cf_4_50 (c_X5_advance hs hT hB hp h4) (by omega) (sk_l hs 19 (by decide)) (sk_k19 hs) rfl rfl (Nat.le_of_ble_eq_true rfl) (fun r1 S1 I1 hq => ?_)
      obtain ⟨rfl, rfl, hA⟩ := hq
      have hT1 := (hA.fn.fr 0).tx hT
      have hS1 := (hA.fn.fr 0).sh hs hS
      refine rn_aload_n dX4_readOne_7 rfl rfl ?_
      refine rn_getR (r := 19) dX4_readOne_8 fd_4_24 (sk_l hs 18 (by decide)) (sk_k18 hs) rfl (sk_r18_1 hs) ?_
      refine rn_callVq (st := []) dX4_readOne_11 cf_4_68 (c_X5_wordFound hs hT1 hB hA.2.1 hA.2.2.2.2 hte.1 hte.2) (by omega) (sk_l hs 19 (by decide)) (sk_k19 hs) rfl rfl (Nat.le_of_ble_eq_true rfl) ?_
      refine rn_top (y := nI 8) (by rw [cW_tK, ht]; rfl) ?_
      refine rn_istore_n (ls' := [some (.ref 18), some (.int (nI (8 - (k + 1)))), some (.int (nI sl)), some (.int (nI 8)), none]) dX4_readOne_14 rfl (by decide) rfl rfl ?_
      refine rn_aload_n dX4_readOne_15 rfl rfl ?_
      refine rn_getR (r := 19) dX4_readOne_16 fd_4_24 (sk_l hs 18 (by decide)) (sk_k18 hs) rfl (sk_r18_1 hs) ?_
      refine rn_getI dX4_readOne_19 fd_4_57 (sk_l hs 19 (by decide)) (sk_k19 hs) rfl ?_
      refine rn_top (y := nI (tS n B p)) (hA.2.1) ?_
      refine rn_istore (ls' := [some (.ref 18), some (.int (nI (8 - (k + 1)))), some (.int (nI sl)), some (.int (nI 8)), some (.int (nI (tS n B p)))]) dX4_readOne_22 (by decide) rfl rfl ?_
      refine rn_iload_n dX4_readOne_24 rfl rfl ?_
      refine rn_if_ltN (tgt := 41) dX4_readOne_25 (by omega) (by decide) ?_
      refine rn_iload_n dX4_readOne_28 rfl rfl ?_
      refine rn_aload_n dX4_readOne_29 rfl rfl ?_
      refine rn_getR (r := 20) dX4_readOne_30 fd_4_30 (sk_l hs 18 (by decide)) (sk_k18 hs) rfl (sk_r18_3 hs) ?_
      refine rn_alenq dX4_readOne_33 (sk_l hs 20 (by decide)) (sk_k20 hs) ?_
      refine rn_icmp_geN (tgt := 41) dX4_readOne_34 (by decide) (by omega) (by omega) (fun c_34 => ?_) (fun c_34 => ?_)
      · omega
      · refine rn_iload_n dX4_readOne_37 rfl rfl ?_
        refine rn_if_neN (tgt := 52) dX4_readOne_38 (by decide) (by omega) (fun c_38 => ?_) (fun c_38 => ?_)
        · refine rn_iload_n dX4_readOne_52 rfl rfl ?_
          refine rn_iconst (v := nI 1) dX4_readOne_53 (by decide) ?_
          refine rn_icmp_neN (tgt := 68) dX4_readOne_54 (by decide) (by omega) (by omega) (fun c_54 => ?_) (fun c_54 => ?_)
          · refine rn_iload_n dX4_readOne_68 rfl rfl ?_
            refine rn_bipush (v := nI 9) dX4_readOne_69 (by decide) ?_
            refine rn_icmp_neN (tgt := 85) dX4_readOne_71 (by decide) (by omega) (by omega) (fun c_71 => ?_) (fun c_71 => ?_)
            · refine rn_iload_n dX4_readOne_85 rfl rfl ?_
              refine rn_bipush (v := nI 8) dX4_readOne_86 (by decide) ?_
              refine rn_icmp_ltN (tgt := 102) dX4_readOne_88 (by decide) (by omega) (by omega) (fun c_88 => ?_) (fun c_88 => ?_)
              · refine rn_iload_n dX4_readOne_102 rfl rfl ?_
                refine rn_tableIn (off := 52) (tgt := 155) dX4_readOne_103 (by decide) (by decide) (by decide) (by decide) ?_
                refine rn_aload_n dX4_readOne_155 rfl rfl ?_
                refine rn_iload_n dX4_readOne_156 rfl rfl ?_
                refine rn_iconst (v := nI 1) dX4_readOne_157 (by decide) ?_
                refine rn_iadd dX4_readOne_158 ?_
                refine rn_top (nI_add _ _) ?_
                refine rn_top (y := nI (8 - k)) (by congr 1; omega) ?_
                refine rn_iload_n dX4_readOne_159 rfl rfl ?_
                refine rn_iload dX4_readOne_160 rfl ?_
                refine rn_callV0 (st := []) dX4_readOne_162 cf_4_83 (c_X4_readRow hs hT1 hB hS1 hR (p := tE n B (tS n B p)) (s := tS n B p) hsl8 (by omega) hte.2 hA.2.2.2.2) (by omega) (sk_l hs 18 (by decide)) (sk_k18 hs) rfl rfl (Nat.le_of_ble_eq_true rfl) (fun r1 S1 I2 hq => ?_)
                have hq9 := hq
                obtain ⟨rfl, rfl, _⟩ := hq.r ((pE_8 ht).symm.trans hX)
                refine rn_ireturn dX4_readOne_165 rfl (by decide) ?_
                exact hX ▸ hq9.pre (hA.fn.fr sl) (hA.1 16 (by decide)) (pE_8 ht)
              · omega
            · exact absurd c_71 (by decide)
          · exact absurd c_54 (by decide)
        · exact absurd c_38 (by decide)
  by_cases ht : tK n B (tS n B p) = 9
  · skip
    rcases hX : pE n B Sh (k + 1) p with e | d
    · refine am_mt ⟨by decide +kernel, rfl⟩ (Nat.le_of_ble_eq_true rfl) rfl ?_
      refine rn_aload_n dX4_readOne_0 rfl rfl ?_
      refine rn_getR (r := 19) dX4_readOne_1 fd_4_24 (sk_l hs 18 (by decide)) (sk_k18 hs) rfl (sk_r18_1 hs) ?_
      refine rn_callV0 (st := []) dX4_readOne_4 cf_4_50 (c_X5_advance hs hT hB hp h4) (by omega) (sk_l hs 19 (by decide)) (sk_k19 hs) rfl rfl (Nat.le_of_ble_eq_true rfl) (fun r1 S1 I1 hq => ?_)
      obtain ⟨rfl, rfl, hA⟩ := hq
      have hT1 := (hA.fn.fr 0).tx hT
      have hS1 := (hA.fn.fr 0).sh hs hS
      refine rn_aload_n dX4_readOne_7 rfl rfl ?_
      refine rn_getR (r := 19) dX4_readOne_8 fd_4_24 (sk_l hs 18 (by decide)) (sk_k18 hs) rfl (sk_r18_1 hs) ?_
      refine rn_callVq (st := []) dX4_readOne_11 cf_4_68 (c_X5_wordFound hs hT1 hB hA.2.1 hA.2.2.2.2 hte.1 hte.2) (by omega) (sk_l hs 19 (by decide)) (sk_k19 hs) rfl rfl (Nat.le_of_ble_eq_true rfl) ?_
      refine rn_top (y := nI 5) (by rw [cW_tK, ht]; rfl) ?_
      refine rn_istore_n (ls' := [some (.ref 18), some (.int (nI (8 - (k + 1)))), some (.int (nI sl)), some (.int (nI 5)), none]) dX4_readOne_14 rfl (by decide) rfl rfl ?_
      refine rn_aload_n dX4_readOne_15 rfl rfl ?_
      refine rn_getR (r := 19) dX4_readOne_16 fd_4_24 (sk_l hs 18 (by decide)) (sk_k18 hs) rfl (sk_r18_1 hs) ?_
      refine rn_getI dX4_readOne_19 fd_4_57 (sk_l hs 19 (by decide)) (sk_k19 hs) rfl ?_
      refine rn_top (y := nI (tS n B p)) (hA.2.1) ?_
      refine rn_istore (ls' := [some (.ref 18), some (.int (nI (8 - (k + 1)))), some (.int (nI sl)), some (.int (nI 5)), some (.int (nI (tS n B p)))]) dX4_readOne_22 (by decide) rfl rfl ?_
      refine rn_iload_n dX4_readOne_24 rfl rfl ?_
      refine rn_if_ltN (tgt := 41) dX4_readOne_25 (by omega) (by decide) ?_
      refine rn_iload_n dX4_readOne_28 rfl rfl ?_
      refine rn_aload_n dX4_readOne_29 rfl rfl ?_
      refine rn_getR (r := 20) dX4_readOne_30 fd_4_30 (sk_l hs 18 (by decide)) (sk_k18 hs) rfl (sk_r18_3 hs) ?_
      refine rn_alenq dX4_readOne_33 (sk_l hs 20 (by decide)) (sk_k20 hs) ?_
      refine rn_icmp_geN (tgt := 41) dX4_readOne_34 (by decide) (by omega) (by omega) (fun c_34 => ?_) (fun c_34 => ?_)
      · omega
      · refine rn_iload_n dX4_readOne_37 rfl rfl ?_
        refine rn_if_neN (tgt := 52) dX4_readOne_38 (by decide) (by omega) (fun c_38 => ?_) (fun c_38 => ?_)
        · refine rn_iload_n dX4_readOne_52 rfl rfl ?_
          refine rn_iconst (v := nI 1) dX4_readOne_53 (by decide) ?_
          refine rn_icmp_neN (tgt := 68) dX4_readOne_54 (by decide) (by omega) (by omega) (fun c_54 => ?_) (fun c_54 => ?_)
          · refine rn_iload_n dX4_readOne_68 rfl rfl ?_
            refine rn_bipush (v := nI 9) dX4_readOne_69 (by decide) ?_
            refine rn_icmp_neN (tgt := 85) dX4_readOne_71 (by decide) (by omega) (by omega) (fun c_71 => ?_) (fun c_71 => ?_)
            · refine rn_iload_n dX4_readOne_85 rfl rfl ?_
              refine rn_bipush (v := nI 8) dX4_readOne_86 (by decide) ?_
              refine rn_icmp_ltN (tgt := 102) dX4_readOne_88 (by decide) (by omega) (by omega) (fun c_88 => ?_) (fun c_88 => ?_)
              · refine rn_iload_n dX4_readOne_102 rfl rfl ?_
                refine rn_tableIn (off := 73) (tgt := 176) dX4_readOne_103 (by decide) (by decide) (by decide) (by decide) ?_
                refine rn_aload_n dX4_readOne_176 rfl rfl ?_
                refine rn_iload_n dX4_readOne_177 rfl rfl ?_
                refine rn_iconst (v := nI 1) dX4_readOne_178 (by decide) ?_
                refine rn_iadd dX4_readOne_179 ?_
                refine rn_top (nI_add _ _) ?_
                refine rn_top (y := nI (8 - k)) (by congr 1; omega) ?_
                refine rn_iload_n dX4_readOne_180 rfl rfl ?_
                refine rn_iload_n dX4_readOne_181 rfl rfl ?_
                refine rn_iload dX4_readOne_182 rfl ?_
                refine rn_callV0 (st := []) dX4_readOne_184 cf_4_89 (c_X4_readPair_5 hs hT1 hB hS1 hR (p := tE n B (tS n B p)) (s := tS n B p) hsl8 (by omega) hte.2 hA.2.2.2.2) (by omega) (sk_l hs 18 (by decide)) (sk_k18 hs) rfl rfl (Nat.le_of_ble_eq_true rfl) (fun r1 S1 I2 hq => ?_)
                have hq9 := hq
                obtain ⟨rfl, rfl, _⟩ := hq.l ((pE_9 ht).symm.trans hX)
                refine rn_ireturn dX4_readOne_187 rfl (by decide) ?_
                exact hX ▸ hq9.pre (hA.fn.fr sl) (hA.1 16 (by decide)) (pE_9 ht)
              · omega
            · exact absurd c_71 (by decide)
          · exact absurd c_54 (by decide)
        · exact absurd c_38 (by decide)
    · refine am_mt ⟨by decide +kernel, rfl⟩ (Nat.le_of_ble_eq_true rfl) rfl ?_
      refine rn_aload_n dX4_readOne_0 rfl rfl ?_
      refine rn_getR (r := 19) dX4_readOne_1 fd_4_24 (sk_l hs 18 (by decide)) (sk_k18 hs) rfl (sk_r18_1 hs) ?_
      refine rn_callV0 (st := []) dX4_readOne_4 cf_4_50 (c_X5_advance hs hT hB hp h4) (by omega) (sk_l hs 19 (by decide)) (sk_k19 hs) rfl rfl (Nat.le_of_ble_eq_true rfl) (fun r1 S1 I1 hq => ?_)
      obtain ⟨rfl, rfl, hA⟩ := hq
      have hT1 := (hA.fn.fr 0).tx hT
      have hS1 := (hA.fn.fr 0).sh hs hS
      refine rn_aload_n dX4_readOne_7 rfl rfl ?_
      refine rn_getR (r := 19) dX4_readOne_8 fd_4_24 (sk_l hs 18 (by decide)) (sk_k18 hs) rfl (sk_r18_1 hs) ?_
      refine rn_callVq (st := []) dX4_readOne_11 cf_4_68 (c_X5_wordFound hs hT1 hB hA.2.1 hA.2.2.2.2 hte.1 hte.2) (by omega) (sk_l hs 19 (by decide)) (sk_k19 hs) rfl rfl (Nat.le_of_ble_eq_true rfl) ?_
      refine rn_top (y := nI 5) (by rw [cW_tK, ht]; rfl) ?_
      refine rn_istore_n (ls' := [some (.ref 18), some (.int (nI (8 - (k + 1)))), some (.int (nI sl)), some (.int (nI 5)), none]) dX4_readOne_14 rfl (by decide) rfl rfl ?_
      refine rn_aload_n dX4_readOne_15 rfl rfl ?_
      refine rn_getR (r := 19) dX4_readOne_16 fd_4_24 (sk_l hs 18 (by decide)) (sk_k18 hs) rfl (sk_r18_1 hs) ?_
      refine rn_getI dX4_readOne_19 fd_4_57 (sk_l hs 19 (by decide)) (sk_k19 hs) rfl ?_
      refine rn_top (y := nI (tS n B p)) (hA.2.1) ?_
      refine rn_istore (ls' := [some (.ref 18), some (.int (nI (8 - (k + 1)))), some (.int (nI sl)), some (.int (nI 5)), some (.int (nI (tS n B p)))]) dX4_readOne_22 (by decide) rfl rfl ?_
      refine rn_iload_n dX4_readOne_24 rfl rfl ?_
      refine rn_if_ltN (tgt := 41) dX4_readOne_25 (by omega) (by decide) ?_
      refine rn_iload_n dX4_readOne_28 rfl rfl ?_
      refine rn_aload_n dX4_readOne_29 rfl rfl ?_
      refine rn_getR (r := 20) dX4_readOne_30 fd_4_30 (sk_l hs 18 (by decide)) (sk_k18 hs) rfl (sk_r18_3 hs) ?_
      refine rn_alenq dX4_readOne_33 (sk_l hs 20 (by decide)) (sk_k20 hs) ?_
      refine rn_icmp_geN (tgt := 41) dX4_readOne_34 (by decide) (by omega) (by omega) (fun c_34 => ?_) (fun c_34 => ?_)
      · omega
      · refine rn_iload_n dX4_readOne_37 rfl rfl ?_
        refine rn_if_neN (tgt := 52) dX4_readOne_38 (by decide) (by omega) (fun c_38 => ?_) (fun c_38 => ?_)
        · refine rn_iload_n dX4_readOne_52 rfl rfl ?_
          refine rn_iconst (v := nI 1) dX4_readOne_53 (by decide) ?_
          refine rn_icmp_neN (tgt := 68) dX4_readOne_54 (by decide) (by omega) (by omega) (fun c_54 => ?_) (fun c_54 => ?_)
          · refine rn_iload_n dX4_readOne_68 rfl rfl ?_
            refine rn_bipush (v := nI 9) dX4_readOne_69 (by decide) ?_
            refine rn_icmp_neN (tgt := 85) dX4_readOne_71 (by decide) (by omega) (by omega) (fun c_71 => ?_) (fun c_71 => ?_)
            · refine rn_iload_n dX4_readOne_85 rfl rfl ?_
              refine rn_bipush (v := nI 8) dX4_readOne_86 (by decide) ?_
              refine rn_icmp_ltN (tgt := 102) dX4_readOne_88 (by decide) (by omega) (by omega) (fun c_88 => ?_) (fun c_88 => ?_)
              · refine rn_iload_n dX4_readOne_102 rfl rfl ?_
                refine rn_tableIn (off := 73) (tgt := 176) dX4_readOne_103 (by decide) (by decide) (by decide) (by decide) ?_
                refine rn_aload_n dX4_readOne_176 rfl rfl ?_
                refine rn_iload_n dX4_readOne_177 rfl rfl ?_
                refine rn_iconst (v := nI 1) dX4_readOne_178 (by decide) ?_
                refine rn_iadd dX4_readOne_179 ?_
                refine rn_top (nI_add _ _) ?_
                refine rn_top (y := nI (8 - k)) (by congr 1; omega) ?_
                refine rn_iload_n dX4_readOne_180 rfl rfl ?_
                refine rn_iload_n dX4_readOne_181 rfl rfl ?_
                refine rn_iload dX4_readOne_182 rfl ?_
                refine rn_callV0 (st := []) dX4_readOne_184 cf_4_89 (c_X4_readPair_5 hs hT1 hB hS1 hR (p := tE n B (tS n B p)) (s := tS n B p) hsl8 (by omega) hte.2 hA.2.2.2.2) (by omega) (sk_l hs 18 (by decide)) (sk_k18 hs) rfl rfl (Nat.le_of_ble_eq_true rfl) (fun r1 S1 I2 hq => ?_)
                have hq9 := hq
                obtain ⟨rfl, rfl, _⟩ := hq.r ((pE_9 ht).symm.trans hX)
                refine rn_ireturn dX4_readOne_187 rfl (by decide) ?_
                exact hX ▸ hq9.pre (hA.fn.fr sl) (hA.1 16 (by decide)) (pE_9 ht)
              · omega
            · exact absurd c_71 (by decide)
          · exact absurd c_54 (by decide)
        · exact absurd c_38 (by decide)
  by_cases ht : tK n B (tS n B p) = 10
  · skip
    rcases hX : pE n B Sh (k + 1) p with e | d
    · refine am_mt ⟨by decide +kernel, rfl⟩ (Nat.le_of_ble_eq_true rfl) rfl ?_
      refine rn_aload_n dX4_readOne_0 rfl rfl ?_
      refine rn_getR (r := 19) dX4_readOne_1 fd_4_24 (sk_l hs 18 (by decide)) (sk_k18 hs) rfl (sk_r18_1 hs) ?_
      refine rn_callV0 (st := []) dX4_readOne_4 cf_4_50 (c_X5_advance hs hT hB hp h4) (by omega) (sk_l hs 19 (by decide)) (sk_k19 hs) rfl rfl (Nat.le_of_ble_eq_true rfl) (fun r1 S1 I1 hq => ?_)
      obtain ⟨rfl, rfl, hA⟩ := hq
      have hT1 := (hA.fn.fr 0).tx hT
      have hS1 := (hA.fn.fr 0).sh hs hS
      refine rn_aload_n dX4_readOne_7 rfl rfl ?_
      refine rn_getR (r := 19) dX4_readOne_8 fd_4_24 (sk_l hs 18 (by decide)) (sk_k18 hs) rfl (sk_r18_1 hs) ?_
      refine rn_callVq (st := []) dX4_readOne_11 cf_4_68 (c_X5_wordFound hs hT1 hB hA.2.1 hA.2.2.2.2 hte.1 hte.2) (by omega) (sk_l hs 19 (by decide)) (sk_k19 hs) rfl rfl (Nat.le_of_ble_eq_true rfl) ?_
      refine rn_top (y := nI 6) (by rw [cW_tK, ht]; rfl) ?_
      refine rn_istore_n (ls' := [some (.ref 18), some (.int (nI (8 - (k + 1)))), some (.int (nI sl)), some (.int (nI 6)), none]) dX4_readOne_14 rfl (by decide) rfl rfl ?_
      refine rn_aload_n dX4_readOne_15 rfl rfl ?_
      refine rn_getR (r := 19) dX4_readOne_16 fd_4_24 (sk_l hs 18 (by decide)) (sk_k18 hs) rfl (sk_r18_1 hs) ?_
      refine rn_getI dX4_readOne_19 fd_4_57 (sk_l hs 19 (by decide)) (sk_k19 hs) rfl ?_
      refine rn_top (y := nI (tS n B p)) (hA.2.1) ?_
      refine rn_istore (ls' := [some (.ref 18), some (.int (nI (8 - (k + 1)))), some (.int (nI sl)), some (.int (nI 6)), some (.int (nI (tS n B p)))]) dX4_readOne_22 (by decide) rfl rfl ?_
      refine rn_iload_n dX4_readOne_24 rfl rfl ?_
      refine rn_if_ltN (tgt := 41) dX4_readOne_25 (by omega) (by decide) ?_
      refine rn_iload_n dX4_readOne_28 rfl rfl ?_
      refine rn_aload_n dX4_readOne_29 rfl rfl ?_
      refine rn_getR (r := 20) dX4_readOne_30 fd_4_30 (sk_l hs 18 (by decide)) (sk_k18 hs) rfl (sk_r18_3 hs) ?_
      refine rn_alenq dX4_readOne_33 (sk_l hs 20 (by decide)) (sk_k20 hs) ?_
      refine rn_icmp_geN (tgt := 41) dX4_readOne_34 (by decide) (by omega) (by omega) (fun c_34 => ?_) (fun c_34 => ?_)
      · omega
      · refine rn_iload_n dX4_readOne_37 rfl rfl ?_
        refine rn_if_neN (tgt := 52) dX4_readOne_38 (by decide) (by omega) (fun c_38 => ?_) (fun c_38 => ?_)
        · refine rn_iload_n dX4_readOne_52 rfl rfl ?_
          refine rn_iconst (v := nI 1) dX4_readOne_53 (by decide) ?_
          refine rn_icmp_neN (tgt := 68) dX4_readOne_54 (by decide) (by omega) (by omega) (fun c_54 => ?_) (fun c_54 => ?_)
          · refine rn_iload_n dX4_readOne_68 rfl rfl ?_
            refine rn_bipush (v := nI 9) dX4_readOne_69 (by decide) ?_
            refine rn_icmp_neN (tgt := 85) dX4_readOne_71 (by decide) (by omega) (by omega) (fun c_71 => ?_) (fun c_71 => ?_)
            · refine rn_iload_n dX4_readOne_85 rfl rfl ?_
              refine rn_bipush (v := nI 8) dX4_readOne_86 (by decide) ?_
              refine rn_icmp_ltN (tgt := 102) dX4_readOne_88 (by decide) (by omega) (by omega) (fun c_88 => ?_) (fun c_88 => ?_)
              · refine rn_iload_n dX4_readOne_102 rfl rfl ?_
                refine rn_tableIn (off := 73) (tgt := 176) dX4_readOne_103 (by decide) (by decide) (by decide) (by decide) ?_
                refine rn_aload_n dX4_readOne_176 rfl rfl ?_
                refine rn_iload_n dX4_readOne_177 rfl rfl ?_
                refine rn_iconst (v := nI 1) dX4_readOne_178 (by decide) ?_
                refine rn_iadd dX4_readOne_179 ?_
                refine rn_top (nI_add _ _) ?_
                refine rn_top (y := nI (8 - k)) (by congr 1; omega) ?_
                refine rn_iload_n dX4_readOne_180 rfl rfl ?_
                refine rn_iload_n dX4_readOne_181 rfl rfl ?_
                refine rn_iload dX4_readOne_182 rfl ?_
                refine rn_callV0 (st := []) dX4_readOne_184 cf_4_89 (c_X4_readPair_6 hs hT1 hB hS1 hR (p := tE n B (tS n B p)) (s := tS n B p) hsl8 (by omega) hte.2 hA.2.2.2.2) (by omega) (sk_l hs 18 (by decide)) (sk_k18 hs) rfl rfl (Nat.le_of_ble_eq_true rfl) (fun r1 S1 I2 hq => ?_)
                have hq9 := hq
                obtain ⟨rfl, rfl, _⟩ := hq.l ((pE_10 ht).symm.trans hX)
                refine rn_ireturn dX4_readOne_187 rfl (by decide) ?_
                exact hX ▸ hq9.pre (hA.fn.fr sl) (hA.1 16 (by decide)) (pE_10 ht)
              · omega
            · exact absurd c_71 (by decide)
          · exact absurd c_54 (by decide)
        · exact absurd c_38 (by decide)
    · refine am_mt ⟨by decide +kernel, rfl⟩ (Nat.le_of_ble_eq_true rfl) rfl ?_
      refine rn_aload_n dX4_readOne_0 rfl rfl ?_
      refine rn_getR (r := 19) dX4_readOne_1 fd_4_24 (sk_l hs 18 (by decide)) (sk_k18 hs) rfl (sk_r18_1 hs) ?_
      refine rn_callV0 (st := []) dX4_readOne_4 cf_4_50 (c_X5_advance hs hT hB hp h4) (by omega) (sk_l hs 19 (by decide)) (sk_k19 hs) rfl rfl (Nat.le_of_ble_eq_true rfl) (fun r1 S1 I1 hq => ?_)
      obtain ⟨rfl, rfl, hA⟩ := hq
      have hT1 := (hA.fn.fr 0).tx hT
      have hS1 := (hA.fn.fr 0).sh hs hS
      refine rn_aload_n dX4_readOne_7 rfl rfl ?_
      refine rn_getR (r := 19) dX4_readOne_8 fd_4_24 (sk_l hs 18 (by decide)) (sk_k18 hs) rfl (sk_r18_1 hs) ?_
      refine rn_callVq (st := []) dX4_readOne_11 cf_4_68 (c_X5_wordFound hs hT1 hB hA.2.1 hA.2.2.2.2 hte.1 hte.2) (by omega) (sk_l hs 19 (by decide)) (sk_k19 hs) rfl rfl (Nat.le_of_ble_eq_true rfl) ?_
      refine rn_top (y := nI 6) (by rw [cW_tK, ht]; rfl) ?_
      refine rn_istore_n (ls' := [some (.ref 18), some (.int (nI (8 - (k + 1)))), some (.int (nI sl)), some (.int (nI 6)), none]) dX4_readOne_14 rfl (by decide) rfl rfl ?_
      refine rn_aload_n dX4_readOne_15 rfl rfl ?_
      refine rn_getR (r := 19) dX4_readOne_16 fd_4_24 (sk_l hs 18 (by decide)) (sk_k18 hs) rfl (sk_r18_1 hs) ?_
      refine rn_getI dX4_readOne_19 fd_4_57 (sk_l hs 19 (by decide)) (sk_k19 hs) rfl ?_
      refine rn_top (y := nI (tS n B p)) (hA.2.1) ?_
      refine rn_istore (ls' := [some (.ref 18), some (.int (nI (8 - (k + 1)))), some (.int (nI sl)), some (.int (nI 6)), some (.int (nI (tS n B p)))]) dX4_readOne_22 (by decide) rfl rfl ?_
      refine rn_iload_n dX4_readOne_24 rfl rfl ?_
      refine rn_if_ltN (tgt := 41) dX4_readOne_25 (by omega) (by decide) ?_
      refine rn_iload_n dX4_readOne_28 rfl rfl ?_
      refine rn_aload_n dX4_readOne_29 rfl rfl ?_
      refine rn_getR (r := 20) dX4_readOne_30 fd_4_30 (sk_l hs 18 (by decide)) (sk_k18 hs) rfl (sk_r18_3 hs) ?_
      refine rn_alenq dX4_readOne_33 (sk_l hs 20 (by decide)) (sk_k20 hs) ?_
      refine rn_icmp_geN (tgt := 41) dX4_readOne_34 (by decide) (by omega) (by omega) (fun c_34 => ?_) (fun c_34 => ?_)
      · omega
      · refine rn_iload_n dX4_readOne_37 rfl rfl ?_
        refine rn_if_neN (tgt := 52) dX4_readOne_38 (by decide) (by omega) (fun c_38 => ?_) (fun c_38 => ?_)
        · refine rn_iload_n dX4_readOne_52 rfl rfl ?_
          refine rn_iconst (v := nI 1) dX4_readOne_53 (by decide) ?_
          refine rn_icmp_neN (tgt := 68) dX4_readOne_54 (by decide) (by omega) (by omega) (fun c_54 => ?_) (fun c_54 => ?_)
          · refine rn_iload_n dX4_readOne_68 rfl rfl ?_
            refine rn_bipush (v := nI 9) dX4_readOne_69 (by decide) ?_
            refine rn_icmp_neN (tgt := 85) dX4_readOne_71 (by decide) (by omega) (by omega) (fun c_71 => ?_) (fun c_71 => ?_)
            · refine rn_iload_n dX4_readOne_85 rfl rfl ?_
              refine rn_bipush (v := nI 8) dX4_readOne_86 (by decide) ?_
              refine rn_icmp_ltN (tgt := 102) dX4_readOne_88 (by decide) (by omega) (by omega) (fun c_88 => ?_) (fun c_88 => ?_)
              · refine rn_iload_n dX4_readOne_102 rfl rfl ?_
                refine rn_tableIn (off := 73) (tgt := 176) dX4_readOne_103 (by decide) (by decide) (by decide) (by decide) ?_
                refine rn_aload_n dX4_readOne_176 rfl rfl ?_
                refine rn_iload_n dX4_readOne_177 rfl rfl ?_
                refine rn_iconst (v := nI 1) dX4_readOne_178 (by decide) ?_
                refine rn_iadd dX4_readOne_179 ?_
                refine rn_top (nI_add _ _) ?_
                refine rn_top (y := nI (8 - k)) (by congr 1; omega) ?_
                refine rn_iload_n dX4_readOne_180 rfl rfl ?_
                refine rn_iload_n dX4_readOne_181 rfl rfl ?_
                refine rn_iload dX4_readOne_182 rfl ?_
                refine rn_callV0 (st := []) dX4_readOne_184 cf_4_89 (c_X4_readPair_6 hs hT1 hB hS1 hR (p := tE n B (tS n B p)) (s := tS n B p) hsl8 (by omega) hte.2 hA.2.2.2.2) (by omega) (sk_l hs 18 (by decide)) (sk_k18 hs) rfl rfl (Nat.le_of_ble_eq_true rfl) (fun r1 S1 I2 hq => ?_)
                have hq9 := hq
                obtain ⟨rfl, rfl, _⟩ := hq.r ((pE_10 ht).symm.trans hX)
                refine rn_ireturn dX4_readOne_187 rfl (by decide) ?_
                exact hX ▸ hq9.pre (hA.fn.fr sl) (hA.1 16 (by decide)) (pE_10 ht)
              · omega
            · exact absurd c_71 (by decide)
          · exact absurd c_54 (by decide)
        · exact absurd c_38 (by decide)
  have ht : tK n B (tS n B p) = 11 := by omega
  · skip
    rcases hX : pE n B Sh (k + 1) p with e | d
    · refine am_mt ⟨by decide +kernel, rfl⟩ (Nat.le_of_ble_eq_true rfl) rfl ?_
      refine rn_aload_n dX4_readOne_0 rfl rfl ?_
      refine rn_getR (r := 19) dX4_readOne_1 fd_4_24 (sk_l hs 18 (by decide)) (sk_k18 hs) rfl (sk_r18_1 hs) ?_
      refine rn_callV0 (st := []) dX4_readOne_4 cf_4_50 (c_X5_advance hs hT hB hp h4) (by omega) (sk_l hs 19 (by decide)) (sk_k19 hs) rfl rfl (Nat.le_of_ble_eq_true rfl) (fun r1 S1 I1 hq => ?_)
      obtain ⟨rfl, rfl, hA⟩ := hq
      have hT1 := (hA.fn.fr 0).tx hT
      have hS1 := (hA.fn.fr 0).sh hs hS
      refine rn_aload_n dX4_readOne_7 rfl rfl ?_
      refine rn_getR (r := 19) dX4_readOne_8 fd_4_24 (sk_l hs 18 (by decide)) (sk_k18 hs) rfl (sk_r18_1 hs) ?_
      refine rn_callVq (st := []) dX4_readOne_11 cf_4_68 (c_X5_wordFound hs hT1 hB hA.2.1 hA.2.2.2.2 hte.1 hte.2) (by omega) (sk_l hs 19 (by decide)) (sk_k19 hs) rfl rfl (Nat.le_of_ble_eq_true rfl) ?_
      refine rn_top (y := nI 7) (by rw [cW_tK, ht]; rfl) ?_
      refine rn_istore_n (ls' := [some (.ref 18), some (.int (nI (8 - (k + 1)))), some (.int (nI sl)), some (.int (nI 7)), none]) dX4_readOne_14 rfl (by decide) rfl rfl ?_
      refine rn_aload_n dX4_readOne_15 rfl rfl ?_
      refine rn_getR (r := 19) dX4_readOne_16 fd_4_24 (sk_l hs 18 (by decide)) (sk_k18 hs) rfl (sk_r18_1 hs) ?_
      refine rn_getI dX4_readOne_19 fd_4_57 (sk_l hs 19 (by decide)) (sk_k19 hs) rfl ?_
      refine rn_top (y := nI (tS n B p)) (hA.2.1) ?_
      refine rn_istore (ls' := [some (.ref 18), some (.int (nI (8 - (k + 1)))), some (.int (nI sl)), some (.int (nI 7)), some (.int (nI (tS n B p)))]) dX4_readOne_22 (by decide) rfl rfl ?_
      refine rn_iload_n dX4_readOne_24 rfl rfl ?_
      refine rn_if_ltN (tgt := 41) dX4_readOne_25 (by omega) (by decide) ?_
      refine rn_iload_n dX4_readOne_28 rfl rfl ?_
      refine rn_aload_n dX4_readOne_29 rfl rfl ?_
      refine rn_getR (r := 20) dX4_readOne_30 fd_4_30 (sk_l hs 18 (by decide)) (sk_k18 hs) rfl (sk_r18_3 hs) ?_
      refine rn_alenq dX4_readOne_33 (sk_l hs 20 (by decide)) (sk_k20 hs) ?_
      refine rn_icmp_geN (tgt := 41) dX4_readOne_34 (by decide) (by omega) (by omega) (fun c_34 => ?_) (fun c_34 => ?_)
      · omega
      · refine rn_iload_n dX4_readOne_37 rfl rfl ?_
        refine rn_if_neN (tgt := 52) dX4_readOne_38 (by decide) (by omega) (fun c_38 => ?_) (fun c_38 => ?_)
        · refine rn_iload_n dX4_readOne_52 rfl rfl ?_
          refine rn_iconst (v := nI 1) dX4_readOne_53 (by decide) ?_
          refine rn_icmp_neN (tgt := 68) dX4_readOne_54 (by decide) (by omega) (by omega) (fun c_54 => ?_) (fun c_54 => ?_)
          · refine rn_iload_n dX4_readOne_68 rfl rfl ?_
            refine rn_bipush (v := nI 9) dX4_readOne_69 (by decide) ?_
            refine rn_icmp_neN (tgt := 85) dX4_readOne_71 (by decide) (by omega) (by omega) (fun c_71 => ?_) (fun c_71 => ?_)
            · refine rn_iload_n dX4_readOne_85 rfl rfl ?_
              refine rn_bipush (v := nI 8) dX4_readOne_86 (by decide) ?_
              refine rn_icmp_ltN (tgt := 102) dX4_readOne_88 (by decide) (by omega) (by omega) (fun c_88 => ?_) (fun c_88 => ?_)
              · refine rn_iload_n dX4_readOne_102 rfl rfl ?_
                refine rn_tableIn (off := 73) (tgt := 176) dX4_readOne_103 (by decide) (by decide) (by decide) (by decide) ?_
                refine rn_aload_n dX4_readOne_176 rfl rfl ?_
                refine rn_iload_n dX4_readOne_177 rfl rfl ?_
                refine rn_iconst (v := nI 1) dX4_readOne_178 (by decide) ?_
                refine rn_iadd dX4_readOne_179 ?_
                refine rn_top (nI_add _ _) ?_
                refine rn_top (y := nI (8 - k)) (by congr 1; omega) ?_
                refine rn_iload_n dX4_readOne_180 rfl rfl ?_
                refine rn_iload_n dX4_readOne_181 rfl rfl ?_
                refine rn_iload dX4_readOne_182 rfl ?_
                refine rn_callV0 (st := []) dX4_readOne_184 cf_4_89 (c_X4_readPair_7 hs hT1 hB hS1 hR (p := tE n B (tS n B p)) (s := tS n B p) hsl8 (by omega) hte.2 hA.2.2.2.2) (by omega) (sk_l hs 18 (by decide)) (sk_k18 hs) rfl rfl (Nat.le_of_ble_eq_true rfl) (fun r1 S1 I2 hq => ?_)
                have hq9 := hq
                obtain ⟨rfl, rfl, _⟩ := hq.l ((pE_11 ht).symm.trans hX)
                refine rn_ireturn dX4_readOne_187 rfl (by decide) ?_
                exact hX ▸ hq9.pre (hA.fn.fr sl) (hA.1 16 (by decide)) (pE_11 ht)
              · omega
            · exact absurd c_71 (by decide)
          · exact absurd c_54 (by decide)
        · exact absurd c_38 (by decide)
    · refine am_mt ⟨by decide +kernel, rfl⟩ (Nat.le_of_ble_eq_true rfl) rfl ?_
      refine rn_aload_n dX4_readOne_0 rfl rfl ?_
      refine rn_getR (r := 19) dX4_readOne_1 fd_4_24 (sk_l hs 18 (by decide)) (sk_k18 hs) rfl (sk_r18_1 hs) ?_
      refine rn_callV0 (st := []) dX4_readOne_4 cf_4_50 (c_X5_advance hs hT hB hp h4) (by omega) (sk_l hs 19 (by decide)) (sk_k19 hs) rfl rfl (Nat.le_of_ble_eq_true rfl) (fun r1 S1 I1 hq => ?_)
      obtain ⟨rfl, rfl, hA⟩ := hq
      have hT1 := (hA.fn.fr 0).tx hT
      have hS1 := (hA.fn.fr 0).sh hs hS
      refine rn_aload_n dX4_readOne_7 rfl rfl ?_
      refine rn_getR (r := 19) dX4_readOne_8 fd_4_24 (sk_l hs 18 (by decide)) (sk_k18 hs) rfl (sk_r18_1 hs) ?_
      refine rn_callVq (st := []) dX4_readOne_11 cf_4_68 (c_X5_wordFound hs hT1 hB hA.2.1 hA.2.2.2.2 hte.1 hte.2) (by omega) (sk_l hs 19 (by decide)) (sk_k19 hs) rfl rfl (Nat.le_of_ble_eq_true rfl) ?_
      refine rn_top (y := nI 7) (by rw [cW_tK, ht]; rfl) ?_
      refine rn_istore_n (ls' := [some (.ref 18), some (.int (nI (8 - (k + 1)))), some (.int (nI sl)), some (.int (nI 7)), none]) dX4_readOne_14 rfl (by decide) rfl rfl ?_
      refine rn_aload_n dX4_readOne_15 rfl rfl ?_
      refine rn_getR (r := 19) dX4_readOne_16 fd_4_24 (sk_l hs 18 (by decide)) (sk_k18 hs) rfl (sk_r18_1 hs) ?_
      refine rn_getI dX4_readOne_19 fd_4_57 (sk_l hs 19 (by decide)) (sk_k19 hs) rfl ?_
      refine rn_top (y := nI (tS n B p)) (hA.2.1) ?_
      refine rn_istore (ls' := [some (.ref 18), some (.int (nI (8 - (k + 1)))), some (.int (nI sl)), some (.int (nI 7)), some (.int (nI (tS n B p)))]) dX4_readOne_22 (by decide) rfl rfl ?_
      refine rn_iload_n dX4_readOne_24 rfl rfl ?_
      refine rn_if_ltN (tgt := 41) dX4_readOne_25 (by omega) (by decide) ?_
      refine rn_iload_n dX4_readOne_28 rfl rfl ?_
      refine rn_aload_n dX4_readOne_29 rfl rfl ?_
      refine rn_getR (r := 20) dX4_readOne_30 fd_4_30 (sk_l hs 18 (by decide)) (sk_k18 hs) rfl (sk_r18_3 hs) ?_
      refine rn_alenq dX4_readOne_33 (sk_l hs 20 (by decide)) (sk_k20 hs) ?_
      refine rn_icmp_geN (tgt := 41) dX4_readOne_34 (by decide) (by omega) (by omega) (fun c_34 => ?_) (fun c_34 => ?_)
      · omega
      · refine rn_iload_n dX4_readOne_37 rfl rfl ?_
        refine rn_if_neN (tgt := 52) dX4_readOne_38 (by decide) (by omega) (fun c_38 => ?_) (fun c_38 => ?_)
        · refine rn_iload_n dX4_readOne_52 rfl rfl ?_
          refine rn_iconst (v := nI 1) dX4_readOne_53 (by decide) ?_
          refine rn_icmp_neN (tgt := 68) dX4_readOne_54 (by decide) (by omega) (by omega) (fun c_54 => ?_) (fun c_54 => ?_)
          · refine rn_iload_n dX4_readOne_68 rfl rfl ?_
            refine rn_bipush (v := nI 9) dX4_readOne_69 (by decide) ?_
            refine rn_icmp_neN (tgt := 85) dX4_readOne_71 (by decide) (by omega) (by omega) (fun c_71 => ?_) (fun c_71 => ?_)
            · refine rn_iload_n dX4_readOne_85 rfl rfl ?_
              refine rn_bipush (v := nI 8) dX4_readOne_86 (by decide) ?_
              refine rn_icmp_ltN (tgt := 102) dX4_readOne_88 (by decide) (by omega) (by omega) (fun c_88 => ?_) (fun c_88 => ?_)
              · refine rn_iload_n dX4_readOne_102 rfl rfl ?_
                refine rn_tableIn (off := 73) (tgt := 176) dX4_readOne_103 (by decide) (by decide) (by decide) (by decide) ?_
                refine rn_aload_n dX4_readOne_176 rfl rfl ?_
                refine rn_iload_n dX4_readOne_177 rfl rfl ?_
                refine rn_iconst (v := nI 1) dX4_readOne_178 (by decide) ?_
                refine rn_iadd dX4_readOne_179 ?_
                refine rn_top (nI_add _ _) ?_
                refine rn_top (y := nI (8 - k)) (by congr 1; omega) ?_
                refine rn_iload_n dX4_readOne_180 rfl rfl ?_
                refine rn_iload_n dX4_readOne_181 rfl rfl ?_
                refine rn_iload dX4_readOne_182 rfl ?_
                refine rn_callV0 (st := []) dX4_readOne_184 cf_4_89 (c_X4_readPair_7 hs hT1 hB hS1 hR (p := tE n B (tS n B p)) (s := tS n B p) hsl8 (by omega) hte.2 hA.2.2.2.2) (by omega) (sk_l hs 18 (by decide)) (sk_k18 hs) rfl rfl (Nat.le_of_ble_eq_true rfl) (fun r1 S1 I2 hq => ?_)
                have hq9 := hq
                obtain ⟨rfl, rfl, _⟩ := hq.r ((pE_11 ht).symm.trans hX)
                refine rn_ireturn dX4_readOne_187 rfl (by decide) ?_
                exact hX ▸ hq9.pre (hA.fn.fr sl) (hA.1 16 (by decide)) (pE_11 ht)
              · omega
            · exact absurd c_71 (by decide)
          · exact absurd c_54 (by decide)
        · exact absurd c_38 (by decide)
theorem RO_all {S : am_S} (hs : sk S) {n : Nat} {B : Nat → Nat} (hB : okB n B) {Sh : Nat → Option Dw} : ∀ k, RO S n B Sh k
  | 0 => RO_0 hs hB
  | k + 1 => RO_s hs hB (RO_all hs hB k)
/-- what reading a whole text comes to, in the class -/
def TX (S : am_S) (I : am_I) (X : (Nat × Nat) ⊕ Dw) (r : Option Value) (S' : am_S) (I' : am_I) : Prop := S' = S ∧ (∀ b, b < 3 ∨ (4 < b ∧ b < 16) ∨ b = 17 ∨ b = 18 ∨ b = 20 ∨ 40 < b → I' b = I b) ∧ I' 16 0 = I 16 0 ∧ I' 16 1 = nI 1 ∧ ((∃ e, X = .inl e ∧ r = some (.int (nI 0)) ∧ I' 16 2 = nI e.1 ∧ I' 16 3 = nI e.2) ∨ ∃ D, X = .inr D ∧ r = some (.int (nI 1)) ∧ I' 16 2 = nI 0 ∧ I' 16 3 = -1 ∧ isDD I' 3 4 D ∧ okD D)
theorem TX.l {S : am_S} {I : am_I} {X : (Nat × Nat) ⊕ Dw} {r : Option Value} {S' : am_S} {I' : am_I} {e : Nat × Nat} (h : TX S I X r S' I') (hX : X = .inl e) : r = some (.int (nI 0)) ∧ S' = S ∧ (∀ b, b < 3 ∨ (4 < b ∧ b < 16) ∨ b = 17 ∨ b = 18 ∨ b = 20 ∨ 40 < b → I' b = I b) ∧ I' 16 0 = I 16 0 ∧ I' 16 1 = nI 1 ∧ I' 16 2 = nI e.1 ∧ I' 16 3 = nI e.2 := by
  obtain ⟨h1, h2, h3, h4, ⟨e', g1, g2, g3⟩ | ⟨d, g1, _⟩⟩ := h
  · rw [hX] at g1; rw [Sum.inl.inj g1]; exact ⟨g2, h1, h2, h3, h4, g3⟩
  · rw [hX] at g1; exact absurd g1 (by simp)
theorem TX.r {S : am_S} {I : am_I} {X : (Nat × Nat) ⊕ Dw} {r : Option Value} {S' : am_S} {I' : am_I} {D : Dw} (h : TX S I X r S' I') (hX : X = .inr D) : r = some (.int (nI 1)) ∧ S' = S ∧ (∀ b, b < 3 ∨ (4 < b ∧ b < 16) ∨ b = 17 ∨ b = 18 ∨ b = 20 ∨ 40 < b → I' b = I b) ∧ I' 16 0 = I 16 0 ∧ I' 16 1 = nI 1 ∧ I' 16 2 = nI 0 ∧ I' 16 3 = -1 ∧ isDD I' 3 4 D ∧ okD D := by
  obtain ⟨h1, h2, h3, h4, ⟨e', g1, _⟩ | ⟨d', g1, g2, g3⟩⟩ := h
  · rw [hX] at g1; exact absurd g1 (by simp)
  · rw [hX] at g1; rw [Sum.inr.inj g1]; exact ⟨g2, h1, h2, h3, h4, g3⟩
set_option maxHeartbeats 1000000 in
set_option maxRecDepth 100000 in
theorem c_X4_readInto {S : am_S} (hs : sk S) {I : am_I} {n : Nat} {B : Nat → Nat} (hT : tX n B I) (hB : okB n B) {Sh : Nat → Option Dw} (hS : ShX Sh S I) : am_Mt 23 Y_X4_readInto (0, 0) [.ref 18, .ref 3] S I (TX S I (pT n B Sh)) := by
  have h200 := hB.1
  have hJ : ∀ b, b ≠ 16 → b ≠ 19 → (am_up (am_up (am_up (am_up I 16 1 (nI 1)) 16 2 (nI 0)) 16 3 (-1)) 19 4 (nI 0)) b = I b := fun b h1 h2 => by rw [am_up_a _ _ h2, am_up_a _ _ h1, am_up_a _ _ h1, am_up_a _ _ h1]
  have hTJ : tX n B (am_up (am_up (am_up (am_up I 16 1 (nI 1)) 16 2 (nI 0)) 16 3 (-1)) 19 4 (nI 0)) := hT.frame (by rw [am_up_a _ _ (by decide), am_up_k _ _ (by decide), am_up_k _ _ (by decide), am_up_k _ _ (by decide)]) (hJ 17 (by decide) (by decide))
  have hSJ : ShX Sh S (am_up (am_up (am_up (am_up I 16 1 (nI 1)) 16 2 (nI 0)) 16 3 (-1)) 19 4 (nI 0)) := hS.moved hs (fun b hb => hJ b (by omega) (by omega))
  have hJ0 : (am_up (am_up (am_up (am_up I 16 1 (nI 1)) 16 2 (nI 0)) 16 3 (-1)) 19 4 (nI 0)) 16 0 = I 16 0 := by rw [am_up_a _ _ (by decide), am_up_k _ _ (by decide), am_up_k _ _ (by decide), am_up_k _ _ (by decide)]
  have hJ1 : (am_up (am_up (am_up (am_up I 16 1 (nI 1)) 16 2 (nI 0)) 16 3 (-1)) 19 4 (nI 0)) 16 1 = nI 1 := by rw [am_up_a _ _ (by decide), am_up_k _ _ (by decide), am_up_k _ _ (by decide), am_up_at]
  have hJ2 : (am_up (am_up (am_up (am_up I 16 1 (nI 1)) 16 2 (nI 0)) 16 3 (-1)) 19 4 (nI 0)) 16 2 = nI 0 := by rw [am_up_a _ _ (by decide), am_up_k _ _ (by decide), am_up_at]
  have hJ3 : (am_up (am_up (am_up (am_up I 16 1 (nI 1)) 16 2 (nI 0)) 16 3 (-1)) 19 4 (nI 0)) 16 3 = -1 := by rw [am_up_a _ _ (by decide), am_up_at]
  rcases hXd : pE n B Sh 8 0 with e | d
  · refine am_mt ⟨by decide +kernel, rfl⟩ (Nat.le_of_ble_eq_true rfl) rfl ?_
    refine rn_aload_n dX4_readInto_0 rfl rfl ?_
    refine rn_getR (r := 16) dX4_readInto_1 fd_4_9 (sk_l hs 18 (by decide)) (sk_k18 hs) rfl (sk_r18_0 hs) ?_
    refine rn_callVq (st := []) dX4_readInto_4 cf_4_38 (c_X3_beginReading hs) (by omega) (sk_l hs 16 (by decide)) (sk_k16 hs) rfl rfl (Nat.le_of_ble_eq_true rfl) ?_
    refine rn_aload_n dX4_readInto_7 rfl rfl ?_
    refine rn_getR (r := 19) dX4_readInto_8 fd_4_24 (sk_l hs 18 (by decide)) (sk_k18 hs) rfl (sk_r18_1 hs) ?_
    refine rn_callVq (st := []) dX4_readInto_11 cf_4_43 (c_X5_rewind hs) (by omega) (sk_l hs 19 (by decide)) (sk_k19 hs) rfl rfl (Nat.le_of_ble_eq_true rfl) ?_
    refine rn_aload_n dX4_readInto_14 rfl rfl ?_
    refine rn_iconst (v := nI 0) dX4_readInto_15 (by decide) ?_
    refine rn_iconst (v := nI 0) dX4_readInto_16 (by decide) ?_
    refine rn_callV0 (st := []) dX4_readInto_17 cf_4_46 (RO_all hs hB 8 0 0 _ (by decide) (Nat.zero_le _) hTJ hSJ (by rw [am_up_at])) (by omega) (sk_l hs 18 (by decide)) (sk_k18 hs) rfl rfl (Nat.le_of_ble_eq_true rfl) (fun r1 S1 I1 hq => ?_)
    obtain ⟨rfl, rfl, hFd, hE2d, hE3d⟩ := hq.l hXd
    refine rn_if_neN (tgt := 25) dX4_readInto_20 (by decide) (by omega) (fun c_20 => ?_) (fun c_20 => ?_)
    · exact absurd c_20 (by decide)
    · refine rn_iconst (v := nI 0) dX4_readInto_23 (by decide) ?_
      refine rn_ireturn dX4_readInto_24 rfl (by decide) ?_
      exact ⟨rfl, fun b hb => (hFd.1 b (by omega) (by omega) (by omega) (by omega) (by omega)).trans (hJ b (by omega) (by omega)), hFd.2.1.trans hJ0, hFd.2.2.trans hJ1, Or.inl ⟨e, by unfold pT; rw [hXd]; rfl, rfl, hE2d, hE3d⟩⟩
  by_cases hen : n ≤ tS n B d.2
  · refine am_mt ⟨by decide +kernel, rfl⟩ (Nat.le_of_ble_eq_true rfl) rfl ?_
    refine rn_aload_n dX4_readInto_0 rfl rfl ?_
    refine rn_getR (r := 16) dX4_readInto_1 fd_4_9 (sk_l hs 18 (by decide)) (sk_k18 hs) rfl (sk_r18_0 hs) ?_
    refine rn_callVq (st := []) dX4_readInto_4 cf_4_38 (c_X3_beginReading hs) (by omega) (sk_l hs 16 (by decide)) (sk_k16 hs) rfl rfl (Nat.le_of_ble_eq_true rfl) ?_
    refine rn_aload_n dX4_readInto_7 rfl rfl ?_
    refine rn_getR (r := 19) dX4_readInto_8 fd_4_24 (sk_l hs 18 (by decide)) (sk_k18 hs) rfl (sk_r18_1 hs) ?_
    refine rn_callVq (st := []) dX4_readInto_11 cf_4_43 (c_X5_rewind hs) (by omega) (sk_l hs 19 (by decide)) (sk_k19 hs) rfl rfl (Nat.le_of_ble_eq_true rfl) ?_
    refine rn_aload_n dX4_readInto_14 rfl rfl ?_
    refine rn_iconst (v := nI 0) dX4_readInto_15 (by decide) ?_
    refine rn_iconst (v := nI 0) dX4_readInto_16 (by decide) ?_
    refine rn_callV0 (st := []) dX4_readInto_17 cf_4_46 (RO_all hs hB 8 0 0 _ (by decide) (Nat.zero_le _) hTJ hSJ (by rw [am_up_at])) (by omega) (sk_l hs 18 (by decide)) (sk_k18 hs) rfl rfl (Nat.le_of_ble_eq_true rfl) (fun r1 S1 I1 hq => ?_)
    obtain ⟨rfl, rfl, hFd, h16d, hDd, h4d⟩ := hq.r hXd
    have hOd := pE_ok n B Sh hS.2 8 _ _ _ (Nat.zero_le _) hXd
    refine rn_if_neN (tgt := 25) dX4_readInto_20 (by decide) (by omega) (fun c_20 => ?_) (fun c_20 => ?_)
    · refine rn_aload_n dX4_readInto_25 rfl rfl ?_
      refine rn_getR (r := 19) dX4_readInto_26 fd_4_24 (sk_l hs 18 (by decide)) (sk_k18 hs) rfl (sk_r18_1 hs) ?_
      refine rn_callV0 (st := []) dX4_readInto_29 cf_4_50 (c_X5_advance hs (hFd.tx hTJ) hB hOd.2.2 h4d) (by omega) (sk_l hs 19 (by decide)) (sk_k19 hs) rfl rfl (Nat.le_of_ble_eq_true rfl) (fun r1 S1 I2 hq => ?_)
      obtain ⟨rfl, rfl, hA⟩ := hq
      refine rn_aload_n dX4_readInto_32 rfl rfl ?_
      refine rn_getR (r := 19) dX4_readInto_33 fd_4_24 (sk_l hs 18 (by decide)) (sk_k18 hs) rfl (sk_r18_1 hs) ?_
      refine rn_getI dX4_readInto_36 fd_4_53 (sk_l hs 19 (by decide)) (sk_k19 hs) rfl ?_
      refine rn_top (y := am_b (decide (n ≤ tS n B d.2))) (hA.2.2.2.1) ?_
      refine rn_if_neB (tgt := 58) dX4_readInto_39 (by decide) (fun c_39 => ?_) (fun c_39 => ?_)
      · refine rn_aload_n dX4_readInto_58 rfl rfl ?_
        refine rn_aload_n dX4_readInto_59 rfl rfl ?_
        refine rn_getR (r := 20) dX4_readInto_60 fd_4_30 (sk_l hs 18 (by decide)) (sk_k18 hs) rfl (sk_r18_3 hs) ?_
        refine rn_iconst (v := nI 0) dX4_readInto_63 (by decide) ?_
        refine rn_aaloadN dX4_readInto_64 (sk_l hs 20 (by decide)) (sk_k20 hs) (by omega) (by omega) ?_
        refine rn_topv (y := .ref 21) (by rw [(sk_ds hs (k := 0) (by decide)).1]; rfl) ?_
        refine rn_callV0 (st := []) dX4_readInto_65 cf_4_64 (c_copyD (sk_d3 hs) (sk_d21 hs) (by decide) (hDd.kept (hA.1 21 (by decide)) (hA.1 22 (by decide)))) (by omega) (sk_d3 hs).1 (sk_d3 hs).2.1 rfl rfl (Nat.le_of_ble_eq_true rfl) (fun r1 S1 I3 hq => ?_)
        obtain ⟨rfl, rfl, hD3, hF3⟩ := hq
        refine rn_iconst (v := nI 1) dX4_readInto_68 (by decide) ?_
        refine rn_ireturn dX4_readInto_69 rfl (by decide) ?_
        have hZ : I3 16 = (am_up (am_up (am_up (am_up I 16 1 (nI 1)) 16 2 (nI 0)) 16 3 (-1)) 19 4 (nI 0)) 16 := by rw [hF3 16 (by decide) (by decide), hA.1 16 (by decide), h16d]
        exact ⟨rfl, fun b hb => (hF3 b (by omega) (by omega)).trans ((hA.1 b (by omega)).trans ((hFd.1 b (by omega) (by omega) (by omega) (by omega) (by omega)).trans (hJ b (by omega) (by omega)))), by rw [hZ]; exact hJ0, by rw [hZ]; exact hJ1, Or.inr ⟨d.1, by unfold pT; rw [hXd, bnd_r, if_pos hen], rfl, by rw [hZ]; exact hJ2, by rw [hZ]; exact hJ3, hD3, hOd.1⟩⟩
      · exact absurd hen (of_decide_eq_false c_39)
    · exact absurd c_20 (by decide)
  · refine am_mt ⟨by decide +kernel, rfl⟩ (Nat.le_of_ble_eq_true rfl) rfl ?_
    refine rn_aload_n dX4_readInto_0 rfl rfl ?_
    refine rn_getR (r := 16) dX4_readInto_1 fd_4_9 (sk_l hs 18 (by decide)) (sk_k18 hs) rfl (sk_r18_0 hs) ?_
    refine rn_callVq (st := []) dX4_readInto_4 cf_4_38 (c_X3_beginReading hs) (by omega) (sk_l hs 16 (by decide)) (sk_k16 hs) rfl rfl (Nat.le_of_ble_eq_true rfl) ?_
    refine rn_aload_n dX4_readInto_7 rfl rfl ?_
    refine rn_getR (r := 19) dX4_readInto_8 fd_4_24 (sk_l hs 18 (by decide)) (sk_k18 hs) rfl (sk_r18_1 hs) ?_
    refine rn_callVq (st := []) dX4_readInto_11 cf_4_43 (c_X5_rewind hs) (by omega) (sk_l hs 19 (by decide)) (sk_k19 hs) rfl rfl (Nat.le_of_ble_eq_true rfl) ?_
    refine rn_aload_n dX4_readInto_14 rfl rfl ?_
    refine rn_iconst (v := nI 0) dX4_readInto_15 (by decide) ?_
    refine rn_iconst (v := nI 0) dX4_readInto_16 (by decide) ?_
    refine rn_callV0 (st := []) dX4_readInto_17 cf_4_46 (RO_all hs hB 8 0 0 _ (by decide) (Nat.zero_le _) hTJ hSJ (by rw [am_up_at])) (by omega) (sk_l hs 18 (by decide)) (sk_k18 hs) rfl rfl (Nat.le_of_ble_eq_true rfl) (fun r1 S1 I1 hq => ?_)
    obtain ⟨rfl, rfl, hFd, h16d, hDd, h4d⟩ := hq.r hXd
    have hOd := pE_ok n B Sh hS.2 8 _ _ _ (Nat.zero_le _) hXd
    refine rn_if_neN (tgt := 25) dX4_readInto_20 (by decide) (by omega) (fun c_20 => ?_) (fun c_20 => ?_)
    · refine rn_aload_n dX4_readInto_25 rfl rfl ?_
      refine rn_getR (r := 19) dX4_readInto_26 fd_4_24 (sk_l hs 18 (by decide)) (sk_k18 hs) rfl (sk_r18_1 hs) ?_
      refine rn_callV0 (st := []) dX4_readInto_29 cf_4_50 (c_X5_advance hs (hFd.tx hTJ) hB hOd.2.2 h4d) (by omega) (sk_l hs 19 (by decide)) (sk_k19 hs) rfl rfl (Nat.le_of_ble_eq_true rfl) (fun r1 S1 I2 hq => ?_)
      obtain ⟨rfl, rfl, hA⟩ := hq
      refine rn_aload_n dX4_readInto_32 rfl rfl ?_
      refine rn_getR (r := 19) dX4_readInto_33 fd_4_24 (sk_l hs 18 (by decide)) (sk_k18 hs) rfl (sk_r18_1 hs) ?_
      refine rn_getI dX4_readInto_36 fd_4_53 (sk_l hs 19 (by decide)) (sk_k19 hs) rfl ?_
      refine rn_top (y := am_b (decide (n ≤ tS n B d.2))) (hA.2.2.2.1) ?_
      refine rn_if_neB (tgt := 58) dX4_readInto_39 (by decide) (fun c_39 => ?_) (fun c_39 => ?_)
      · exact absurd (of_decide_eq_true c_39) hen
      · refine rn_aload_n dX4_readInto_42 rfl rfl ?_
        refine rn_getR (r := 16) dX4_readInto_43 fd_4_9 (sk_l hs 18 (by decide)) (sk_k18 hs) rfl (sk_r18_0 hs) ?_
        refine rn_iconst (v := nI 1) dX4_readInto_46 (by decide) ?_
        refine rn_aload_n dX4_readInto_47 rfl rfl ?_
        refine rn_getR (r := 19) dX4_readInto_48 fd_4_24 (sk_l hs 18 (by decide)) (sk_k18 hs) rfl (sk_r18_1 hs) ?_
        refine rn_getI dX4_readInto_51 fd_4_57 (sk_l hs 19 (by decide)) (sk_k19 hs) rfl ?_
        refine rn_top (y := nI (tS n B d.2)) (hA.2.1) ?_
        refine rn_callVq (st := []) dX4_readInto_54 cf_4_61 (c_X3_fail hs _ _) (by omega) (sk_l hs 16 (by decide)) (sk_k16 hs) rfl rfl (Nat.le_of_ble_eq_true rfl) ?_
        refine rn_ireturn dX4_readInto_57 rfl (by decide) ?_
        have hZ : I2 16 = (am_up (am_up (am_up (am_up I 16 1 (nI 1)) 16 2 (nI 0)) 16 3 (-1)) 19 4 (nI 0)) 16 := by rw [hA.1 16 (by decide), h16d]
        exact ⟨rfl, fun b hb => by rw [am_up_a _ _ (by omega), am_up_a _ _ (by omega)]; exact (hA.1 b (by omega)).trans ((hFd.1 b (by omega) (by omega) (by omega) (by omega) (by omega)).trans (hJ b (by omega) (by omega))), by rw [am_up_k _ _ (by decide), am_up_k _ _ (by decide), hZ]; exact hJ0, by rw [am_up_k _ _ (by decide), am_up_k _ _ (by decide), hZ]; exact hJ1, Or.inl ⟨(1, tS n B d.2), by unfold pT; rw [hXd, bnd_r, if_neg hen], rfl, by rw [am_up_k _ _ (by decide), am_up_at], by rw [am_up_at]⟩⟩
    · exact absurd c_20 (by decide)
/-- the class with a new drawing -/
def KV (D : Dw) (I I' : am_I) : Prop := (∀ b, b ≠ 0 → b ≠ 1 → b ≠ 2 → b ≠ 5 → I' b = I b) ∧ (∀ k, k ≠ 9 → k ≠ 10 → I' 0 k = I 0 k) ∧ isDD I' 1 2 D ∧ isDr I' 1 5 D.1 D.2.1 zM ∧ I' 0 9 = nI 0 ∧ I' 0 10 = nI 0
set_option maxHeartbeats 1000000 in
set_option maxRecDepth 100000 in
theorem c_X7_takeSpare {S : am_S} (hs : sk S) {I : am_I} {D : Dw} (hD : isDD I 3 4 D) : am_Mt 2 Y_X7_takeSpare (0, 0) [.ref 0] S I (fun r S' I' => r = none ∧ S' = S ∧ KV D I I') := by
  refine am_mt ⟨by decide +kernel, rfl⟩ (Nat.le_of_ble_eq_true rfl) rfl ?_
  refine rn_aload_n dX7_takeSpare_0 rfl rfl ?_
  refine rn_getR (r := 1) dX7_takeSpare_1 fd_7_10 (sk_l hs 0 (by decide)) (sk_k0 hs) rfl (sk_r0_0 hs) ?_
  refine rn_aload_n dX7_takeSpare_4 rfl rfl ?_
  refine rn_getR (r := 3) dX7_takeSpare_5 fd_7_29 (sk_l hs 0 (by decide)) (sk_k0 hs) rfl (sk_r0_1 hs) ?_
  refine rn_callV0 (st := []) dX7_takeSpare_8 cf_7_194 (c_copyD (sk_d1 hs) (sk_d3 hs) (by decide) hD) (by omega) (sk_l hs 1 (by decide)) (sk_k1 hs) rfl rfl (Nat.le_of_ble_eq_true rfl) (fun r1 S1 I1 hq => ?_)
  obtain ⟨rfl, rfl, hD1, hF1⟩ := hq
  refine rn_aload_n dX7_takeSpare_11 rfl rfl ?_
  refine rn_getR (r := 5) dX7_takeSpare_12 fd_7_32 (sk_l hs 0 (by decide)) (sk_k0 hs) rfl (sk_r0_2 hs) ?_
  refine rn_iconst (v := nI 0) dX7_takeSpare_15 (by decide) ?_
  refine rn_callSq (st := []) dX7_takeSpare_16 cf_7_225 (c_J7_fill _ _ (nI 0) (sk_l hs 5 (by decide)) (sk_k5 hs) (by decide)) (by omega) rfl rfl (Nat.le_of_ble_eq_true rfl) ?_
  refine rn_aload_n dX7_takeSpare_19 rfl rfl ?_
  refine rn_callVq (st := []) dX7_takeSpare_20 cf_7_94 (c_X7_forgetLines hs) (by omega) (sk_l hs 0 (by decide)) (sk_k0 hs) rfl rfl (Nat.le_of_ble_eq_true rfl) ?_
  refine rn_return dX7_takeSpare_23 rfl ?_
  refine ⟨rfl, rfl, fun b h0 h1 h2 h5 => ?_, fun k h9 h10 => ?_, ?_, ?_, ?_, ?_⟩
  · rw [am_up_a _ _ h0, am_up_a _ _ h0, va_up_o _ _ h5]; exact hF1 b h1 h2
  · rw [am_up_k _ _ h10, am_up_k _ _ h9, va_up_o _ _ (by decide)]; rw [hF1 0 (by decide) (by decide)]
  · exact hD1.kept (by rw [am_up_a _ _ (by decide), am_up_a _ _ (by decide), va_up_o _ _ (by decide)]) (by rw [am_up_a _ _ (by decide), am_up_a _ _ (by decide), va_up_o _ _ (by decide)])
  · refine ⟨by rw [am_up_a _ _ (by decide), am_up_a _ _ (by decide), va_up_o _ _ (by decide)]; exact hD1.1, by rw [am_up_a _ _ (by decide), am_up_a _ _ (by decide), va_up_o _ _ (by decide)]; exact hD1.2.1, fun p hp => ?_⟩
    rw [am_up_a _ _ (by decide), am_up_a _ _ (by decide), show va_up I1 5 (am_fl 128 (nI 0) (I1 5)) 5 p = nI 0 by simp [va_up, am_fl, hp]]
    congr 1
    unfold gv zM
    split <;> rfl
  · rw [am_up_k _ _ (by decide), am_up_at]
  · rw [am_up_at]
/-- what drawing a text comes to, in the class -/
def vDraw (X : (Nat × Nat) ⊕ Dw) : Int32 := match X with
  | .inl _ => -1
  | .inr D => nI (D.1 * D.2.1)
def fkX (X : (Nat × Nat) ⊕ Dw) : Int32 := match X with
  | .inl e => nI e.1
  | .inr _ => nI 0
def fpX (X : (Nat × Nat) ⊕ Dw) : Int32 := match X with
  | .inl e => nI e.2
  | .inr _ => -1
/-- the class's state after draw or back: fault told, tape empty, the drawing new if one was told -/
def DX (X : (Nat × Nat) ⊕ Dw) (I I' : am_I) : Prop := (∀ b, (5 < b ∧ b < 16) ∨ b = 17 ∨ 43 < b → I' b = I b) ∧ (∀ k, k < 9 → I' 0 k = I 0 k) ∧ I' 16 0 = nI 0 ∧ I' 16 1 = nI 1 ∧ I' 16 2 = fkX X ∧ I' 16 3 = fpX X ∧ ((∃ e, X = .inl e ∧ (∀ b, b = 0 ∨ b = 1 ∨ b = 2 ∨ b = 5 → I' b = I b)) ∨ ∃ D, X = .inr D ∧ okD D ∧ isDD I' 1 2 D ∧ isDr I' 1 5 D.1 D.2.1 zM ∧ I' 0 9 = nI 0 ∧ I' 0 10 = nI 0)
set_option maxHeartbeats 1000000 in
set_option maxRecDepth 100000 in
theorem c_X7_draw {S : am_S} (hs : sk S) {I : am_I} {n : Nat} {B : Nat → Nat} (hT : tX n B I) (hB : okB n B) {Sh : Nat → Option Dw} (hS : ShX Sh S I) : am_Mt 24 Y_X7_draw (0, 0) [.ref 0] S I (fun r S' I' => r = some (.int (vDraw (pT n B Sh))) ∧ S' = S ∧ DX (pT n B Sh) I I') := by
  rcases hX : pT n B Sh with e | D
  · refine am_mt ⟨by decide +kernel, rfl⟩ (Nat.le_of_ble_eq_true rfl) rfl ?_
    refine rn_aload_n dX7_draw_0 rfl rfl ?_
    refine rn_getR (r := 18) dX7_draw_1 fd_7_66 (sk_l hs 0 (by decide)) (sk_k0 hs) rfl (sk_r0_7 hs) ?_
    refine rn_aload_n dX7_draw_4 rfl rfl ?_
    refine rn_getR (r := 3) dX7_draw_5 fd_7_29 (sk_l hs 0 (by decide)) (sk_k0 hs) rfl (sk_r0_1 hs) ?_
    refine rn_callV0 (st := []) dX7_draw_8 cf_7_166 (c_X4_readInto hs hT hB hS) (by omega) (sk_l hs 18 (by decide)) (sk_k18 hs) rfl rfl (Nat.le_of_ble_eq_true rfl) (fun r1 S1 I1 hq => ?_)
    obtain ⟨rfl, rfl, hF, h160, h161, hE2, hE3⟩ := hq.l hX
    refine rn_istore_n (ls' := [some (.ref 0), some (.int (nI 0))]) dX7_draw_11 rfl (by decide) rfl rfl ?_
    refine rn_aload_n dX7_draw_12 rfl rfl ?_
    refine rn_getR (r := 16) dX7_draw_13 fd_7_57 (sk_l hs 0 (by decide)) (sk_k0 hs) rfl (sk_r0_6 hs) ?_
    refine rn_iconst (v := nI 0) dX7_draw_16 (by decide) ?_
    refine rn_putI dX7_draw_17 fd_7_159 (sk_l hs 16 (by decide)) (sk_k16 hs) rfl rfl (vp_nar_int _) rfl ?_
    refine rn_iload_n dX7_draw_20 rfl rfl ?_
    refine rn_if_neN (tgt := 26) dX7_draw_21 (by decide) (by omega) (fun c_21 => ?_) (fun c_21 => ?_)
    · exact absurd c_21 (by decide)
    · refine rn_iconst (v := (-1)) dX7_draw_24 (by decide) ?_
      refine rn_ireturn dX7_draw_25 rfl (vp_nar_int _) ?_
      exact ⟨rfl, rfl, fun b hb => by rw [am_up_a _ _ (by omega)]; exact hF b (by omega), fun k hk => by rw [am_up_a _ _ (by decide), hF 0 (by decide)], by rw [am_up_at], by rw [am_up_k _ _ (by decide)]; exact h161, by rw [am_up_k _ _ (by decide)]; exact hE2, by rw [am_up_k _ _ (by decide)]; exact hE3, Or.inl ⟨e, rfl, fun b hb => by rw [am_up_a _ _ (by omega)]; exact hF b (by omega)⟩⟩
  · refine am_mt ⟨by decide +kernel, rfl⟩ (Nat.le_of_ble_eq_true rfl) rfl ?_
    refine rn_aload_n dX7_draw_0 rfl rfl ?_
    refine rn_getR (r := 18) dX7_draw_1 fd_7_66 (sk_l hs 0 (by decide)) (sk_k0 hs) rfl (sk_r0_7 hs) ?_
    refine rn_aload_n dX7_draw_4 rfl rfl ?_
    refine rn_getR (r := 3) dX7_draw_5 fd_7_29 (sk_l hs 0 (by decide)) (sk_k0 hs) rfl (sk_r0_1 hs) ?_
    refine rn_callV0 (st := []) dX7_draw_8 cf_7_166 (c_X4_readInto hs hT hB hS) (by omega) (sk_l hs 18 (by decide)) (sk_k18 hs) rfl rfl (Nat.le_of_ble_eq_true rfl) (fun r1 S1 I1 hq => ?_)
    obtain ⟨rfl, rfl, hF, h160, h161, h162, h163, hD, hO⟩ := hq.r hX
    refine rn_istore_n (ls' := [some (.ref 0), some (.int (nI 1))]) dX7_draw_11 rfl (by decide) rfl rfl ?_
    refine rn_aload_n dX7_draw_12 rfl rfl ?_
    refine rn_getR (r := 16) dX7_draw_13 fd_7_57 (sk_l hs 0 (by decide)) (sk_k0 hs) rfl (sk_r0_6 hs) ?_
    refine rn_iconst (v := nI 0) dX7_draw_16 (by decide) ?_
    refine rn_putI dX7_draw_17 fd_7_159 (sk_l hs 16 (by decide)) (sk_k16 hs) rfl rfl (vp_nar_int _) rfl ?_
    refine rn_iload_n dX7_draw_20 rfl rfl ?_
    refine rn_if_neN (tgt := 26) dX7_draw_21 (by decide) (by omega) (fun c_21 => ?_) (fun c_21 => ?_)
    · refine rn_aload_n dX7_draw_26 rfl rfl ?_
      refine rn_callV0 (st := []) dX7_draw_27 cf_7_170 (c_X7_takeSpare hs (hD.kept (am_up_a _ _ (by decide)) (am_up_a _ _ (by decide)))) (by omega) (sk_l hs 0 (by decide)) (sk_k0 hs) rfl rfl (Nat.le_of_ble_eq_true rfl) (fun r1 S1 I2 hq => ?_)
      obtain ⟨rfl, rfl, hV⟩ := hq
      refine rn_aload_n dX7_draw_30 rfl rfl ?_
      refine rn_getR (r := 1) dX7_draw_31 fd_7_10 (sk_l hs 0 (by decide)) (sk_k0 hs) rfl (sk_r0_0 hs) ?_
      refine rn_getI dX7_draw_34 fd_7_133 (sk_l hs 1 (by decide)) (sk_k1 hs) rfl ?_
      refine rn_top (y := nI D.1) (hV.2.2.1.1) ?_
      refine rn_aload_n dX7_draw_37 rfl rfl ?_
      refine rn_getR (r := 1) dX7_draw_38 fd_7_10 (sk_l hs 0 (by decide)) (sk_k0 hs) rfl (sk_r0_0 hs) ?_
      refine rn_getI dX7_draw_41 fd_7_136 (sk_l hs 1 (by decide)) (sk_k1 hs) rfl ?_
      refine rn_top (y := nI D.2.1) (hV.2.2.1.2.1) ?_
      refine rn_imul dX7_draw_44 ?_
      refine rn_top (pk_mul _ _) ?_
      refine rn_ireturn dX7_draw_45 rfl (vp_nar_int _) ?_
      have h16 : I2 16 = am_up I1 16 0 (nI 0) 16 := hV.1 16 (by decide) (by decide) (by decide) (by decide)
      exact ⟨rfl, rfl, fun b hb => by rw [hV.1 b (by omega) (by omega) (by omega) (by omega), am_up_a _ _ (by omega)]; exact hF b (by omega), fun k hk => by rw [hV.2.1 k (by omega) (by omega), am_up_a _ _ (by decide), hF 0 (by decide)], by rw [h16, am_up_at], by rw [h16, am_up_k _ _ (by decide)]; exact h161, by rw [h16, am_up_k _ _ (by decide)]; exact h162, by rw [h16, am_up_k _ _ (by decide)]; exact h163, Or.inr ⟨D, rfl, hO, hV.2.2.1, hV.2.2.2.1, hV.2.2.2.2⟩⟩
    · exact absurd c_21 (by decide)
