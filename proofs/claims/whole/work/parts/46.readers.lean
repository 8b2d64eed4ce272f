def FN (I I' : am_I) : Prop := (∀ b, b ≠ 16 → b ≠ 19 → I' b = I b) ∧ I' 16 0 = I 16 0 ∧ I' 16 1 = I 16 1
def FR (sl : Nat) (I I' : am_I) : Prop := (∀ b, b ≠ 16 → b ≠ 19 → b ≠ 39 → b ≠ 40 → (b < 21 + 2 * sl ∨ 38 < b) → I' b = I b) ∧ I' 16 0 = I 16 0 ∧ I' 16 1 = I 16 1
theorem FN.fr {I I' : am_I} (h : FN I I') (sl : Nat) : FR sl I I' := ⟨fun b h1 h2 _ _ _ => h.1 b h1 h2, h.2⟩
theorem FN.trans {I I1 I2 : am_I} (h : FN I I1) (g : FN I1 I2) : FN I I2 := ⟨fun b h1 h2 => (g.1 b h1 h2).trans (h.1 b h1 h2), g.2.1.trans h.2.1, g.2.2.trans h.2.2⟩
theorem FR.trans {sl : Nat} {I I1 I2 : am_I} (h : FR sl I I1) (g : FR sl I1 I2) : FR sl I I2 := ⟨fun b h1 h2 h3 h4 h5 => (g.1 b h1 h2 h3 h4 h5).trans (h.1 b h1 h2 h3 h4 h5), g.2.1.trans h.2.1, g.2.2.trans h.2.2⟩
theorem FR.down {sl : Nat} {I I1 : am_I} (h : FR (sl + 1) I I1) : FR sl I I1 := ⟨fun b h1 h2 h3 h4 h5 => h.1 b h1 h2 h3 h4 (by omega), h.2⟩
theorem FR.fail {sl : Nat} {I I1 : am_I} (h : FR sl I I1) (x y : Int32) : FR sl I (am_up (am_up I1 16 2 x) 16 3 y) := ⟨fun b h1 h2 h3 h4 h5 => by rw [am_up_a _ _ h1, am_up_a _ _ h1]; exact h.1 b h1 h2 h3 h4 h5, by rw [am_up_k _ _ (by decide), am_up_k _ _ (by decide)]; exact h.2.1, by rw [am_up_k _ _ (by decide), am_up_k _ _ (by decide)]; exact h.2.2⟩
theorem FN.fail {I I1 : am_I} (h : FN I I1) (x y : Int32) : FN I (am_up (am_up I1 16 2 x) 16 3 y) := ⟨fun b h1 h2 => by rw [am_up_a _ _ h1, am_up_a _ _ h1]; exact h.1 b h1 h2, by rw [am_up_k _ _ (by decide), am_up_k _ _ (by decide)]; exact h.2.1, by rw [am_up_k _ _ (by decide), am_up_k _ _ (by decide)]; exact h.2.2⟩
/-- only the drawing of a slot, and the reader's spare one -/
theorem FR.dd {sl : Nat} {I I1 I2 : am_I} (h : FR sl I I1) (hs : sl ≤ 8) (g : ∀ b, b ≠ 21 + 2 * sl → b ≠ 22 + 2 * sl → I2 b = I1 b) : FR sl I I2 := ⟨fun b h1 h2 h3 h4 h5 => by rw [g b (by omega) (by omega)]; exact h.1 b h1 h2 h3 h4 h5, by rw [g 16 (by omega) (by omega)]; exact h.2.1, by rw [g 16 (by omega) (by omega)]; exact h.2.2⟩
theorem FR.ds {sl : Nat} {I I1 I2 : am_I} (h : FR sl I I1) (g : ∀ b, b ≠ 39 → b ≠ 40 → I2 b = I1 b) : FR sl I I2 := ⟨fun b h1 h2 h3 h4 h5 => by rw [g b h3 h4]; exact h.1 b h1 h2 h3 h4 h5, by rw [g 16 (by decide) (by decide)]; exact h.2.1, by rw [g 16 (by decide) (by decide)]; exact h.2.2⟩
theorem tX.frame {n : Nat} {B : Nat → Nat} {I I' : am_I} (h : tX n B I) (h0 : I' 16 0 = I 16 0) (h2 : I' 17 = I 17) : tX n B I' := ⟨by rw [h0]; exact h.1, fun k hk => by rw [h2]; exact h.2 k hk⟩
theorem FR.tx {sl n : Nat} {B : Nat → Nat} {I I' : am_I} (h : FR sl I I') (hT : tX n B I) : tX n B I' := hT.frame h.2.1 (h.1 17 (by decide) (by decide) (by decide) (by decide) (by omega))
def ShX (Sh : Nat → Option Dw) (S : am_S) (I : am_I) : Prop := (∀ k, k < 8 → (S.2.2 6 k = none ∧ Sh k = none) ∨ ∃ c D, S.2.2 6 k = some c ∧ Sh k = some D ∧ isDD I c (c + 1) D) ∧ ∀ k D, Sh k = some D → okD D
theorem ShX.moved {Sh : Nat → Option Dw} {S : am_S} (hs : sk S) {I I' : am_I} (h : ShX Sh S I) (hF : ∀ b, 62 ≤ b → I' b = I b) : ShX Sh S I' := by
  refine ⟨fun k hk => ?_, h.2⟩
  rcases h.1 k hk with h1 | ⟨c, D, h1, h2, h3⟩
  · exact Or.inl h1
  · have h4 := hs.2.2.2.1 k c hk h1
    exact Or.inr ⟨c, D, h1, h2, h3.kept (hF c h4.1) (hF (c + 1) (by omega))⟩
theorem FR.sh {sl : Nat} {Sh : Nat → Option Dw} {S : am_S} (hs : sk S) {I I' : am_I} (h : FR sl I I') (hS : ShX Sh S I) : ShX Sh S I' := hS.moved hs (fun b hb => h.1 b (by omega) (by omega) (by omega) (by omega) (by omega))
/-- what reading an E into a slot comes to -/
def RX (S : am_S) (sl : Nat) (I : am_I) (X : (Nat × Nat) ⊕ (Dw × Nat)) (r : Option Value) (S' : am_S) (I' : am_I) : Prop := S' = S ∧ FR sl I I' ∧ ((∃ e, X = .inl e ∧ r = some (.int (nI 0)) ∧ I' 16 2 = nI e.1 ∧ I' 16 3 = nI e.2) ∨ ∃ d, X = .inr d ∧ r = some (.int (nI 1)) ∧ I' 16 = I 16 ∧ isDD I' (21 + 2 * sl) (22 + 2 * sl) d.1 ∧ I' 19 4 = nI d.2)
theorem RX.l {S : am_S} {sl : Nat} {I : am_I} {X : (Nat × Nat) ⊕ (Dw × Nat)} {r : Option Value} {S' : am_S} {I' : am_I} {e : Nat × Nat} (h : RX S sl I X r S' I') (hX : X = .inl e) : r = some (.int (nI 0)) ∧ S' = S ∧ FR sl I I' ∧ I' 16 2 = nI e.1 ∧ I' 16 3 = nI e.2 := by
  obtain ⟨h1, h2, ⟨e', g1, g2, g3⟩ | ⟨d, g1, _⟩⟩ := h
  · rw [hX] at g1; rw [Sum.inl.inj g1]; exact ⟨g2, h1, h2, g3⟩
  · rw [hX] at g1; exact absurd g1 (by simp)
theorem RX.r {S : am_S} {sl : Nat} {I : am_I} {X : (Nat × Nat) ⊕ (Dw × Nat)} {r : Option Value} {S' : am_S} {I' : am_I} {d : Dw × Nat} (h : RX S sl I X r S' I') (hX : X = .inr d) : r = some (.int (nI 1)) ∧ S' = S ∧ FR sl I I' ∧ I' 16 = I 16 ∧ isDD I' (21 + 2 * sl) (22 + 2 * sl) d.1 ∧ I' 19 4 = nI d.2 := by
  obtain ⟨h1, h2, ⟨e', g1, _⟩ | ⟨d', g1, g2, g3⟩⟩ := h
  · rw [hX] at g1; exact absurd g1 (by simp)
  · rw [hX] at g1; rw [Sum.inr.inj g1]; exact ⟨g2, h1, h2, g3⟩
/-- what reading a number comes to -/
def NX (S : am_S) (n : Nat) (B : Nat → Nat) (p : Nat) (I : am_I) (X : (Nat × Nat) ⊕ (Nat × Nat)) (r : Option Value) (S' : am_S) (I' : am_I) : Prop := S' = S ∧ FN I I' ∧ ((∃ e, X = .inl e ∧ r = some (.int (-1)) ∧ I' 16 2 = nI e.1 ∧ I' 16 3 = nI e.2) ∨ ∃ v, X = .inr v ∧ r = some (.int (nI v.1)) ∧ I' 16 = I 16 ∧ I' 19 4 = nI v.2 ∧ I' 19 0 = nI (tS n B p))
theorem NX.l {S : am_S} {n : Nat} {B : Nat → Nat} {p : Nat} {I : am_I} {X : (Nat × Nat) ⊕ (Nat × Nat)} {r : Option Value} {S' : am_S} {I' : am_I} {e : Nat × Nat} (h : NX S n B p I X r S' I') (hX : X = .inl e) : r = some (.int (-1)) ∧ S' = S ∧ FN I I' ∧ I' 16 2 = nI e.1 ∧ I' 16 3 = nI e.2 := by
  obtain ⟨h1, h2, ⟨e', g1, g2, g3⟩ | ⟨d, g1, _⟩⟩ := h
  · rw [hX] at g1; rw [Sum.inl.inj g1]; exact ⟨g2, h1, h2, g3⟩
  · rw [hX] at g1; exact absurd g1 (by simp)
theorem NX.r {S : am_S} {n : Nat} {B : Nat → Nat} {p : Nat} {I : am_I} {X : (Nat × Nat) ⊕ (Nat × Nat)} {r : Option Value} {S' : am_S} {I' : am_I} {v : Nat × Nat} (h : NX S n B p I X r S' I') (hX : X = .inr v) : r = some (.int (nI v.1)) ∧ S' = S ∧ FN I I' ∧ I' 16 = I 16 ∧ I' 19 4 = nI v.2 ∧ I' 19 0 = nI (tS n B p) := by
  obtain ⟨h1, h2, ⟨e', g1, _⟩ | ⟨d', g1, g2, g3⟩⟩ := h
  · rw [hX] at g1; exact absurd g1 (by simp)
  · rw [hX] at g1; rw [Sum.inr.inj g1]; exact ⟨g2, h1, h2, g3⟩
theorem AD.fn {n : Nat} {B : Nat → Nat} {p : Nat} {I I' : am_I} (h : AD n B p I I') : FN I I' := ⟨fun b _ h2 => h.1 b h2, by rw [h.1 16 (by decide)], by rw [h.1 16 (by decide)]⟩
set_option maxHeartbeats 1000000 in
set_option maxRecDepth 100000 in
theorem c_X4_readNumber {S : am_S} (hs : sk S) {I : am_I} {n : Nat} {B : Nat → Nat} (hT : tX n B I) (hB : okB n B) {p lo hi : Nat} (hp : p ≤ n) (h4 : I 19 4 = nI p) (hlo : lo ≤ 16) (hhi : hi ≤ 16) : am_Mt 3 Y_X4_readNumber (0, 0) [.ref 18, .int (nI lo), .int (nI hi)] S I (NX S n B p I (pN n B lo hi p)) := by
  have h200 := hB.1
  by_cases hk : tK n B (tS n B p) = 1
  · by_cases hr : lo ≤ tN n B (tS n B p) ∧ tN n B (tS n B p) ≤ hi
    · refine am_mt ⟨by decide +kernel, rfl⟩ (Nat.le_of_ble_eq_true rfl) rfl ?_
      refine rn_aload_n dX4_readNumber_0 rfl rfl ?_
      refine rn_getR (r := 19) dX4_readNumber_1 fd_4_24 (sk_l hs 18 (by decide)) (sk_k18 hs) rfl (sk_r18_1 hs) ?_
      refine rn_callV0 (st := []) dX4_readNumber_4 cf_4_50 (c_X5_advance hs hT hB hp h4) (by omega) (sk_l hs 19 (by decide)) (sk_k19 hs) rfl rfl (Nat.le_of_ble_eq_true rfl) (fun r1 S1 I1 hq => ?_)
      obtain ⟨rfl, rfl, hA⟩ := hq
      refine rn_aload_n dX4_readNumber_7 rfl rfl ?_
      refine rn_getR (r := 19) dX4_readNumber_8 fd_4_24 (sk_l hs 18 (by decide)) (sk_k18 hs) rfl (sk_r18_1 hs) ?_
      refine rn_getI dX4_readNumber_11 fd_4_121 (sk_l hs 19 (by decide)) (sk_k19 hs) rfl ?_
      refine rn_top (y := nI (tN n B (tS n B p))) (hA.2.2.1.trans (if_pos hk)) ?_
      refine rn_istore_n (ls' := [some (.ref 18), some (.int (nI lo)), some (.int (nI hi)), some (.int (nI (tN n B (tS n B p))))]) dX4_readNumber_14 rfl (by decide) rfl rfl ?_
      have hcl : tN n B (tS n B p) ≤ 100 := cap_le _
      refine rn_iload_n dX4_readNumber_15 rfl rfl ?_
      refine rn_iconst (v := (-1)) dX4_readNumber_16 (by decide) ?_
      refine rn_icmp_ne (tgt := 38) dX4_readNumber_17 (by decide) (fun c_17 => ?_) (fun c_17 => ?_)
      · refine rn_iload_n dX4_readNumber_38 rfl rfl ?_
        refine rn_iload_n dX4_readNumber_39 rfl rfl ?_
        refine rn_icmp_ltN (tgt := 48) dX4_readNumber_40 (by decide) (by omega) (by omega) (fun c_40 => ?_) (fun c_40 => ?_)
        · omega
        · refine rn_iload_n dX4_readNumber_43 rfl rfl ?_
          refine rn_iload_n dX4_readNumber_44 rfl rfl ?_
          refine rn_icmp_leN (tgt := 66) dX4_readNumber_45 (by decide) (by omega) (by omega) (fun c_45 => ?_) (fun c_45 => ?_)
          · refine rn_iload_n dX4_readNumber_66 rfl rfl ?_
            refine rn_ireturn dX4_readNumber_67 rfl (vp_nar_int _) ?_
            exact ⟨rfl, hA.fn, Or.inr ⟨(tN n B (tS n B p), tE n B (tS n B p)), (if_pos hk).trans (if_pos hr), rfl, hA.1 16 (by decide), hA.2.2.2.2, hA.2.1⟩⟩
          · omega
      · exact absurd c_17 (fun h9 => by rw [z_eq, z_nI (by omega), z_m1] at h9; omega)
    · refine am_mt ⟨by decide +kernel, rfl⟩ (Nat.le_of_ble_eq_true rfl) rfl ?_
      refine rn_aload_n dX4_readNumber_0 rfl rfl ?_
      refine rn_getR (r := 19) dX4_readNumber_1 fd_4_24 (sk_l hs 18 (by decide)) (sk_k18 hs) rfl (sk_r18_1 hs) ?_
      refine rn_callV0 (st := []) dX4_readNumber_4 cf_4_50 (c_X5_advance hs hT hB hp h4) (by omega) (sk_l hs 19 (by decide)) (sk_k19 hs) rfl rfl (Nat.le_of_ble_eq_true rfl) (fun r1 S1 I1 hq => ?_)
      obtain ⟨rfl, rfl, hA⟩ := hq
      refine rn_aload_n dX4_readNumber_7 rfl rfl ?_
      refine rn_getR (r := 19) dX4_readNumber_8 fd_4_24 (sk_l hs 18 (by decide)) (sk_k18 hs) rfl (sk_r18_1 hs) ?_
      refine rn_getI dX4_readNumber_11 fd_4_121 (sk_l hs 19 (by decide)) (sk_k19 hs) rfl ?_
      refine rn_top (y := nI (tN n B (tS n B p))) (hA.2.2.1.trans (if_pos hk)) ?_
      refine rn_istore_n (ls' := [some (.ref 18), some (.int (nI lo)), some (.int (nI hi)), some (.int (nI (tN n B (tS n B p))))]) dX4_readNumber_14 rfl (by decide) rfl rfl ?_
      have hcl : tN n B (tS n B p) ≤ 100 := cap_le _
      refine rn_iload_n dX4_readNumber_15 rfl rfl ?_
      refine rn_iconst (v := (-1)) dX4_readNumber_16 (by decide) ?_
      refine rn_icmp_ne (tgt := 38) dX4_readNumber_17 (by decide) (fun c_17 => ?_) (fun c_17 => ?_)
      · refine rn_iload_n dX4_readNumber_38 rfl rfl ?_
        refine rn_iload_n dX4_readNumber_39 rfl rfl ?_
        refine rn_icmp_ltN (tgt := 48) dX4_readNumber_40 (by decide) (by omega) (by omega) (fun c_40 => ?_) (fun c_40 => ?_)
        · refine rn_aload_n dX4_readNumber_48 rfl rfl ?_
          refine rn_getR (r := 16) dX4_readNumber_49 fd_4_9 (sk_l hs 18 (by decide)) (sk_k18 hs) rfl (sk_r18_0 hs) ?_
          refine rn_iconst (v := nI 2) dX4_readNumber_52 (by decide) ?_
          refine rn_aload_n dX4_readNumber_53 rfl rfl ?_
          refine rn_getR (r := 19) dX4_readNumber_54 fd_4_24 (sk_l hs 18 (by decide)) (sk_k18 hs) rfl (sk_r18_1 hs) ?_
          refine rn_getI dX4_readNumber_57 fd_4_57 (sk_l hs 19 (by decide)) (sk_k19 hs) rfl ?_
          refine rn_top (y := nI (tS n B p)) (hA.2.1) ?_
          refine rn_callVq (st := []) dX4_readNumber_60 cf_4_61 (c_X3_fail hs _ _) (by omega) (sk_l hs 16 (by decide)) (sk_k16 hs) rfl rfl (Nat.le_of_ble_eq_true rfl) ?_
          refine rn_pop dX4_readNumber_63 rfl ?_
          refine rn_iconst (v := (-1)) dX4_readNumber_64 (by decide) ?_
          refine rn_ireturn dX4_readNumber_65 rfl (vp_nar_int _) ?_
          refine ⟨rfl, hA.fn.fail _ _, Or.inl ⟨(2, tS n B p), (if_pos hk).trans (if_neg hr), rfl, by rw [am_up_k _ _ (by decide), am_up_at], by rw [am_up_at]⟩⟩
        · refine rn_iload_n dX4_readNumber_43 rfl rfl ?_
          refine rn_iload_n dX4_readNumber_44 rfl rfl ?_
          refine rn_icmp_leN (tgt := 66) dX4_readNumber_45 (by decide) (by omega) (by omega) (fun c_45 => ?_) (fun c_45 => ?_)
          · exact absurd ⟨c_40, c_45⟩ hr
          · refine rn_aload_n dX4_readNumber_48 rfl rfl ?_
            refine rn_getR (r := 16) dX4_readNumber_49 fd_4_9 (sk_l hs 18 (by decide)) (sk_k18 hs) rfl (sk_r18_0 hs) ?_
            refine rn_iconst (v := nI 2) dX4_readNumber_52 (by decide) ?_
            refine rn_aload_n dX4_readNumber_53 rfl rfl ?_
            refine rn_getR (r := 19) dX4_readNumber_54 fd_4_24 (sk_l hs 18 (by decide)) (sk_k18 hs) rfl (sk_r18_1 hs) ?_
            refine rn_getI dX4_readNumber_57 fd_4_57 (sk_l hs 19 (by decide)) (sk_k19 hs) rfl ?_
            refine rn_top (y := nI (tS n B p)) (hA.2.1) ?_
            refine rn_callVq (st := []) dX4_readNumber_60 cf_4_61 (c_X3_fail hs _ _) (by omega) (sk_l hs 16 (by decide)) (sk_k16 hs) rfl rfl (Nat.le_of_ble_eq_true rfl) ?_
            refine rn_pop dX4_readNumber_63 rfl ?_
            refine rn_iconst (v := (-1)) dX4_readNumber_64 (by decide) ?_
            refine rn_ireturn dX4_readNumber_65 rfl (vp_nar_int _) ?_
            refine ⟨rfl, hA.fn.fail _ _, Or.inl ⟨(2, tS n B p), (if_pos hk).trans (if_neg hr), rfl, by rw [am_up_k _ _ (by decide), am_up_at], by rw [am_up_at]⟩⟩
      · exact absurd c_17 (fun h9 => by rw [z_eq, z_nI (by omega), z_m1] at h9; omega)
  · refine am_mt ⟨by decide +kernel, rfl⟩ (Nat.le_of_ble_eq_true rfl) rfl ?_
    refine rn_aload_n dX4_readNumber_0 rfl rfl ?_
    refine rn_getR (r := 19) dX4_readNumber_1 fd_4_24 (sk_l hs 18 (by decide)) (sk_k18 hs) rfl (sk_r18_1 hs) ?_
    refine rn_callV0 (st := []) dX4_readNumber_4 cf_4_50 (c_X5_advance hs hT hB hp h4) (by omega) (sk_l hs 19 (by decide)) (sk_k19 hs) rfl rfl (Nat.le_of_ble_eq_true rfl) (fun r1 S1 I1 hq => ?_)
    obtain ⟨rfl, rfl, hA⟩ := hq
    refine rn_aload_n dX4_readNumber_7 rfl rfl ?_
    refine rn_getR (r := 19) dX4_readNumber_8 fd_4_24 (sk_l hs 18 (by decide)) (sk_k18 hs) rfl (sk_r18_1 hs) ?_
    refine rn_getI dX4_readNumber_11 fd_4_121 (sk_l hs 19 (by decide)) (sk_k19 hs) rfl ?_
    refine rn_top (y := (-1)) (hA.2.2.1.trans (if_neg hk)) ?_
    refine rn_istore_n (ls' := [some (.ref 18), some (.int (nI lo)), some (.int (nI hi)), some (.int (-1))]) dX4_readNumber_14 rfl (by decide) rfl rfl ?_
    have hcl : tN n B (tS n B p) ≤ 100 := cap_le _
    refine rn_iload_n dX4_readNumber_15 rfl rfl ?_
    refine rn_iconst (v := (-1)) dX4_readNumber_16 (by decide) ?_
    refine rn_icmp_ne (tgt := 38) dX4_readNumber_17 (by decide) (fun c_17 => ?_) (fun c_17 => ?_)
    · exact absurd rfl c_17
    · refine rn_aload_n dX4_readNumber_20 rfl rfl ?_
      refine rn_getR (r := 16) dX4_readNumber_21 fd_4_9 (sk_l hs 18 (by decide)) (sk_k18 hs) rfl (sk_r18_0 hs) ?_
      refine rn_iconst (v := nI 1) dX4_readNumber_24 (by decide) ?_
      refine rn_aload_n dX4_readNumber_25 rfl rfl ?_
      refine rn_getR (r := 19) dX4_readNumber_26 fd_4_24 (sk_l hs 18 (by decide)) (sk_k18 hs) rfl (sk_r18_1 hs) ?_
      refine rn_getI dX4_readNumber_29 fd_4_57 (sk_l hs 19 (by decide)) (sk_k19 hs) rfl ?_
      refine rn_top (y := nI (tS n B p)) (hA.2.1) ?_
      refine rn_callVq (st := []) dX4_readNumber_32 cf_4_61 (c_X3_fail hs _ _) (by omega) (sk_l hs 16 (by decide)) (sk_k16 hs) rfl rfl (Nat.le_of_ble_eq_true rfl) ?_
      refine rn_pop dX4_readNumber_35 rfl ?_
      refine rn_iconst (v := (-1)) dX4_readNumber_36 (by decide) ?_
      refine rn_ireturn dX4_readNumber_37 rfl (vp_nar_int _) ?_
      refine ⟨rfl, hA.fn.fail _ _, Or.inl ⟨(1, tS n B p), if_neg hk, rfl, by rw [am_up_k _ _ (by decide), am_up_at], by rw [am_up_at]⟩⟩
set_option maxHeartbeats 1000000 in
set_option maxRecDepth 100000 in
theorem c_X4_readPlain {S : am_S} (hs : sk S) {I : am_I} {n : Nat} {B : Nat → Nat} (hT : tX n B I) (hB : okB n B) {p : Nat} {sl : Nat} (hsl : sl ≤ 8) (hp : p ≤ n) (h4 : I 19 4 = nI p) : am_Mt 4 Y_X4_readPlain (0, 0) [.ref 18, .ref (21 + 2 * sl)] S I (RX S sl I (bnd (pN n B 1 8 p) (fun a => bnd (pN n B 1 8 a.2) (fun b => .inr ((a.1, b.1, zM), b.2))))) := by
  have h200 := hB.1
  have hd := (sk_ds hs (k := sl) (by omega)).2
  rcases hXa : pN n B 1 8 p with e | a
  · refine am_mt ⟨by decide +kernel, rfl⟩ (Nat.le_of_ble_eq_true rfl) rfl ?_
    refine rn_aload_n dX4_readPlain_0 rfl rfl ?_
    refine rn_iconst (v := nI 1) dX4_readPlain_1 (by decide) ?_
    refine rn_bipush (v := nI 8) dX4_readPlain_2 (by decide) ?_
    refine rn_callV0 (st := []) dX4_readPlain_4 cf_4_93 (c_X4_readNumber hs hT hB (p := p) (lo := 1) (hi := 8) hp h4 (by decide) (by decide)) (by omega) (sk_l hs 18 (by decide)) (sk_k18 hs) rfl rfl (Nat.le_of_ble_eq_true rfl) (fun r1 S1 I1 hq => ?_)
    obtain ⟨rfl, rfl, hFa, hE2a, hE3a⟩ := hq.l hXa
    refine rn_istore_n (ls' := [some (.ref 18), some (.ref (21 + 2 * sl)), some (.int (-1)), none]) dX4_readPlain_7 rfl (by decide) rfl rfl ?_
    refine rn_iload_n dX4_readPlain_8 rfl rfl ?_
    refine rn_iconst (v := (-1)) dX4_readPlain_9 (by decide) ?_
    refine rn_icmp_ne (tgt := 15) dX4_readPlain_10 (by decide) (fun c_10 => ?_) (fun c_10 => ?_)
    · exact absurd rfl c_10
    · refine rn_iconst (v := nI 0) dX4_readPlain_13 (by decide) ?_
      refine rn_ireturn dX4_readPlain_14 rfl (by decide) ?_
      exact ⟨rfl, hFa.fr _, Or.inl ⟨e, rfl, rfl, hE2a, hE3a⟩⟩
  · rcases hXb : pN n B 1 8 a.2 with e | b
    · refine am_mt ⟨by decide +kernel, rfl⟩ (Nat.le_of_ble_eq_true rfl) rfl ?_
      refine rn_aload_n dX4_readPlain_0 rfl rfl ?_
      refine rn_iconst (v := nI 1) dX4_readPlain_1 (by decide) ?_
      refine rn_bipush (v := nI 8) dX4_readPlain_2 (by decide) ?_
      refine rn_callV0 (st := []) dX4_readPlain_4 cf_4_93 (c_X4_readNumber hs hT hB (p := p) (lo := 1) (hi := 8) hp h4 (by decide) (by decide)) (by omega) (sk_l hs 18 (by decide)) (sk_k18 hs) rfl rfl (Nat.le_of_ble_eq_true rfl) (fun r1 S1 I1 hq => ?_)
      obtain ⟨rfl, rfl, hFa, h16a, h4a, h0a⟩ := hq.r hXa
      have hPa := pN_pos n B hp hXa
      refine rn_istore_n (ls' := [some (.ref 18), some (.ref (21 + 2 * sl)), some (.int (nI a.1)), none]) dX4_readPlain_7 rfl (by decide) rfl rfl ?_
      refine rn_iload_n dX4_readPlain_8 rfl rfl ?_
      refine rn_iconst (v := (-1)) dX4_readPlain_9 (by decide) ?_
      refine rn_icmp_ne (tgt := 15) dX4_readPlain_10 (by decide) (fun c_10 => ?_) (fun c_10 => ?_)
      · refine rn_aload_n dX4_readPlain_15 rfl rfl ?_
        refine rn_iconst (v := nI 1) dX4_readPlain_16 (by decide) ?_
        refine rn_bipush (v := nI 8) dX4_readPlain_17 (by decide) ?_
        refine rn_callV0 (st := []) dX4_readPlain_19 cf_4_93 (c_X4_readNumber hs ((hFa.fr 0).tx hT) hB (p := a.2) (lo := 1) (hi := 8) hPa.1.2 h4a (by decide) (by decide)) (by omega) (sk_l hs 18 (by decide)) (sk_k18 hs) rfl rfl (Nat.le_of_ble_eq_true rfl) (fun r1 S1 I2 hq => ?_)
        obtain ⟨rfl, rfl, hFb, hE2b, hE3b⟩ := hq.l hXb
        refine rn_istore_n (ls' := [some (.ref 18), some (.ref (21 + 2 * sl)), some (.int (nI a.1)), some (.int (-1))]) dX4_readPlain_22 rfl (by decide) rfl rfl ?_
        refine rn_iload_n dX4_readPlain_23 rfl rfl ?_
        refine rn_iconst (v := (-1)) dX4_readPlain_24 (by decide) ?_
        refine rn_icmp_ne (tgt := 30) dX4_readPlain_25 (by decide) (fun c_25 => ?_) (fun c_25 => ?_)
        · exact absurd rfl c_25
        · refine rn_iconst (v := nI 0) dX4_readPlain_28 (by decide) ?_
          refine rn_ireturn dX4_readPlain_29 rfl (by decide) ?_
          exact ⟨rfl, (hFa.trans hFb).fr _, Or.inl ⟨e, by rw [bnd_r, hXb]; rfl, rfl, hE2b, hE3b⟩⟩
      · exact absurd c_10 (fun h9 => by rw [z_eq, z_nI (by omega), z_m1] at h9; omega)
    · refine am_mt ⟨by decide +kernel, rfl⟩ (Nat.le_of_ble_eq_true rfl) rfl ?_
      refine rn_aload_n dX4_readPlain_0 rfl rfl ?_
      refine rn_iconst (v := nI 1) dX4_readPlain_1 (by decide) ?_
      refine rn_bipush (v := nI 8) dX4_readPlain_2 (by decide) ?_
      refine rn_callV0 (st := []) dX4_readPlain_4 cf_4_93 (c_X4_readNumber hs hT hB (p := p) (lo := 1) (hi := 8) hp h4 (by decide) (by decide)) (by omega) (sk_l hs 18 (by decide)) (sk_k18 hs) rfl rfl (Nat.le_of_ble_eq_true rfl) (fun r1 S1 I1 hq => ?_)
      obtain ⟨rfl, rfl, hFa, h16a, h4a, h0a⟩ := hq.r hXa
      have hPa := pN_pos n B hp hXa
      refine rn_istore_n (ls' := [some (.ref 18), some (.ref (21 + 2 * sl)), some (.int (nI a.1)), none]) dX4_readPlain_7 rfl (by decide) rfl rfl ?_
      refine rn_iload_n dX4_readPlain_8 rfl rfl ?_
      refine rn_iconst (v := (-1)) dX4_readPlain_9 (by decide) ?_
      refine rn_icmp_ne (tgt := 15) dX4_readPlain_10 (by decide) (fun c_10 => ?_) (fun c_10 => ?_)
      · refine rn_aload_n dX4_readPlain_15 rfl rfl ?_
        refine rn_iconst (v := nI 1) dX4_readPlain_16 (by decide) ?_
        refine rn_bipush (v := nI 8) dX4_readPlain_17 (by decide) ?_
        refine rn_callV0 (st := []) dX4_readPlain_19 cf_4_93 (c_X4_readNumber hs ((hFa.fr 0).tx hT) hB (p := a.2) (lo := 1) (hi := 8) hPa.1.2 h4a (by decide) (by decide)) (by omega) (sk_l hs 18 (by decide)) (sk_k18 hs) rfl rfl (Nat.le_of_ble_eq_true rfl) (fun r1 S1 I2 hq => ?_)
        obtain ⟨rfl, rfl, hFb, h16b, h4b, h0b⟩ := hq.r hXb
        have hPb := pN_pos n B hPa.1.2 hXb
        refine rn_istore_n (ls' := [some (.ref 18), some (.ref (21 + 2 * sl)), some (.int (nI a.1)), some (.int (nI b.1))]) dX4_readPlain_22 rfl (by decide) rfl rfl ?_
        refine rn_iload_n dX4_readPlain_23 rfl rfl ?_
        refine rn_iconst (v := (-1)) dX4_readPlain_24 (by decide) ?_
        refine rn_icmp_ne (tgt := 30) dX4_readPlain_25 (by decide) (fun c_25 => ?_) (fun c_25 => ?_)
        · refine rn_aload_n dX4_readPlain_30 rfl rfl ?_
          refine rn_iload_n dX4_readPlain_31 rfl rfl ?_
          refine rn_iload_n dX4_readPlain_32 rfl rfl ?_
          refine rn_callV0 (st := []) dX4_readPlain_33 cf_4_97 (c_clearD hd hPa.2.1 hPa.2.2 hPb.2.1 hPb.2.2) (by omega) hd.1 hd.2.1 rfl rfl (Nat.le_of_ble_eq_true rfl) (fun r1 S1 I3 hq => ?_)
          obtain ⟨rfl, rfl, hD3, hF3⟩ := hq
          refine rn_iconst (v := nI 1) dX4_readPlain_36 (by decide) ?_
          refine rn_ireturn dX4_readPlain_37 rfl (by decide) ?_
          exact ⟨rfl, ((hFa.trans hFb).fr sl).dd hsl hF3, Or.inr ⟨_, by rw [bnd_r, hXb]; rfl, rfl, by rw [hF3 16 (by omega) (by omega), h16b, h16a], hD3, by rw [hF3 19 (by omega) (by omega)]; exact h4b⟩⟩
        · exact absurd c_25 (fun h9 => by rw [z_eq, z_nI (by omega), z_m1] at h9; omega)
      · exact absurd c_10 (fun h9 => by rw [z_eq, z_nI (by omega), z_m1] at h9; omega)
set_option maxHeartbeats 1000000 in
set_option maxRecDepth 100000 in
theorem c_X4_readKept {S : am_S} (hs : sk S) {I : am_I} {n : Nat} {B : Nat → Nat} (hT : tX n B I) (hB : okB n B) {Sh : Nat → Option Dw} (hS : ShX Sh S I) {p : Nat} {sl : Nat} (hsl : sl ≤ 8) (hp : p ≤ n) (h4 : I 19 4 = nI p) : am_Mt 4 Y_X4_readKept (0, 0) [.ref 18, .ref (21 + 2 * sl)] S I (RX S sl I (bnd (pN n B 0 7 p) (fun a => match Sh a.1 with
    | none => .inl (2, tS n B p)
    | some D => .inr (D, a.2)))) := by
  have h200 := hB.1
  have hd := (sk_ds hs (k := sl) (by omega)).2
  rcases hXa : pN n B 0 7 p with e | a
  · refine am_mt ⟨by decide +kernel, rfl⟩ (Nat.le_of_ble_eq_true rfl) rfl ?_
    refine rn_aload_n dX4_readKept_0 rfl rfl ?_
    refine rn_iconst (v := nI 0) dX4_readKept_1 (by decide) ?_
    refine rn_bipush (v := nI 7) dX4_readKept_2 (by decide) ?_
    refine rn_callV0 (st := []) dX4_readKept_4 cf_4_93 (c_X4_readNumber hs hT hB (p := p) (lo := 0) (hi := 7) hp h4 (by decide) (by decide)) (by omega) (sk_l hs 18 (by decide)) (sk_k18 hs) rfl rfl (Nat.le_of_ble_eq_true rfl) (fun r1 S1 I1 hq => ?_)
    obtain ⟨rfl, rfl, hFa, hE2a, hE3a⟩ := hq.l hXa
    refine rn_istore_n (ls' := [some (.ref 18), some (.ref (21 + 2 * sl)), some (.int (-1)), none]) dX4_readKept_7 rfl (by decide) rfl rfl ?_
    refine rn_iload_n dX4_readKept_8 rfl rfl ?_
    refine rn_if_lt (tgt := 21) dX4_readKept_9 (by decide) (fun c_9 => ?_) (fun c_9 => ?_)
    · refine rn_iconst (v := nI 0) dX4_readKept_21 (by decide) ?_
      refine rn_ireturn dX4_readKept_22 rfl (by decide) ?_
      exact ⟨rfl, hFa.fr _, Or.inl ⟨e, rfl, rfl, hE2a, hE3a⟩⟩
    · exact absurd c_9 (by decide)
  · have hPa0 := pN_pos n B hp hXa
    rcases hS.1 a.1 (by omega) with ⟨hr, hn⟩ | ⟨c, D, hr, hn, hc⟩
    · refine am_mt ⟨by decide +kernel, rfl⟩ (Nat.le_of_ble_eq_true rfl) rfl ?_
      refine rn_aload_n dX4_readKept_0 rfl rfl ?_
      refine rn_iconst (v := nI 0) dX4_readKept_1 (by decide) ?_
      refine rn_bipush (v := nI 7) dX4_readKept_2 (by decide) ?_
      refine rn_callV0 (st := []) dX4_readKept_4 cf_4_93 (c_X4_readNumber hs hT hB (p := p) (lo := 0) (hi := 7) hp h4 (by decide) (by decide)) (by omega) (sk_l hs 18 (by decide)) (sk_k18 hs) rfl rfl (Nat.le_of_ble_eq_true rfl) (fun r1 S1 I1 hq => ?_)
      obtain ⟨rfl, rfl, hFa, h16a, h4a, h0a⟩ := hq.r hXa
      have hPa := pN_pos n B hp hXa
      refine rn_istore_n (ls' := [some (.ref 18), some (.ref (21 + 2 * sl)), some (.int (nI a.1)), none]) dX4_readKept_7 rfl (by decide) rfl rfl ?_
      refine rn_iload_n dX4_readKept_8 rfl rfl ?_
      refine rn_if_ltN (tgt := 21) dX4_readKept_9 (by omega) (by decide) ?_
      refine rn_iload_n dX4_readKept_12 rfl rfl ?_
      refine rn_aload_n dX4_readKept_13 rfl rfl ?_
      refine rn_getR (r := 6) dX4_readKept_14 fd_4_15 (sk_l hs 18 (by decide)) (sk_k18 hs) rfl (sk_r18_2 hs) ?_
      refine rn_alenq dX4_readKept_17 (sk_l hs 6 (by decide)) (sk_k6 hs) ?_
      refine rn_icmp_ltN (tgt := 23) dX4_readKept_18 (by decide) (by omega) (by omega) (fun c_18 => ?_) (fun c_18 => ?_)
      · refine rn_aload_n dX4_readKept_23 rfl rfl ?_
        refine rn_getR (r := 6) dX4_readKept_24 fd_4_15 (sk_l hs 18 (by decide)) (sk_k18 hs) rfl (sk_r18_2 hs) ?_
        refine rn_iload_n dX4_readKept_27 rfl rfl ?_
        refine rn_aaloadN dX4_readKept_28 (sk_l hs 6 (by decide)) (sk_k6 hs) (by omega) (by omega) ?_
        refine rn_topv (y := .null) (by rw [hr]; rfl) ?_
        refine rn_astore_nN (ls' := [some (.ref 18), some (.ref (21 + 2 * sl)), some (.int (nI a.1)), some (.null)]) dX4_readKept_29 rfl (by decide) rfl rfl ?_
        refine rn_aload_nN dX4_readKept_30 rfl rfl ?_
        refine rn_ifnonnullN dX4_readKept_31 ?_
        refine rn_aload_n dX4_readKept_34 rfl rfl ?_
        refine rn_getR (r := 16) dX4_readKept_35 fd_4_9 (sk_l hs 18 (by decide)) (sk_k18 hs) rfl (sk_r18_0 hs) ?_
        refine rn_iconst (v := nI 2) dX4_readKept_38 (by decide) ?_
        refine rn_aload_n dX4_readKept_39 rfl rfl ?_
        refine rn_getR (r := 19) dX4_readKept_40 fd_4_24 (sk_l hs 18 (by decide)) (sk_k18 hs) rfl (sk_r18_1 hs) ?_
        refine rn_getI dX4_readKept_43 fd_4_57 (sk_l hs 19 (by decide)) (sk_k19 hs) rfl ?_
        refine rn_top (y := nI (tS n B p)) (h0a) ?_
        refine rn_callVq (st := []) dX4_readKept_46 cf_4_61 (c_X3_fail hs _ _) (by omega) (sk_l hs 16 (by decide)) (sk_k16 hs) rfl rfl (Nat.le_of_ble_eq_true rfl) ?_
        refine rn_ireturn dX4_readKept_49 rfl (by decide) ?_
        exact ⟨rfl, (hFa.fr sl).fail _ _, Or.inl ⟨(2, tS n B p), by rw [bnd_r, hn], rfl, by rw [am_up_k _ _ (by decide), am_up_at], by rw [am_up_at]⟩⟩
      · omega
    · refine am_mt ⟨by decide +kernel, rfl⟩ (Nat.le_of_ble_eq_true rfl) rfl ?_
      refine rn_aload_n dX4_readKept_0 rfl rfl ?_
      refine rn_iconst (v := nI 0) dX4_readKept_1 (by decide) ?_
      refine rn_bipush (v := nI 7) dX4_readKept_2 (by decide) ?_
      refine rn_callV0 (st := []) dX4_readKept_4 cf_4_93 (c_X4_readNumber hs hT hB (p := p) (lo := 0) (hi := 7) hp h4 (by decide) (by decide)) (by omega) (sk_l hs 18 (by decide)) (sk_k18 hs) rfl rfl (Nat.le_of_ble_eq_true rfl) (fun r1 S1 I1 hq => ?_)
      obtain ⟨rfl, rfl, hFa, h16a, h4a, h0a⟩ := hq.r hXa
      have hPa := pN_pos n B hp hXa
      refine rn_istore_n (ls' := [some (.ref 18), some (.ref (21 + 2 * sl)), some (.int (nI a.1)), none]) dX4_readKept_7 rfl (by decide) rfl rfl ?_
      refine rn_iload_n dX4_readKept_8 rfl rfl ?_
      refine rn_if_ltN (tgt := 21) dX4_readKept_9 (by omega) (by decide) ?_
      refine rn_iload_n dX4_readKept_12 rfl rfl ?_
      refine rn_aload_n dX4_readKept_13 rfl rfl ?_
      refine rn_getR (r := 6) dX4_readKept_14 fd_4_15 (sk_l hs 18 (by decide)) (sk_k18 hs) rfl (sk_r18_2 hs) ?_
      refine rn_alenq dX4_readKept_17 (sk_l hs 6 (by decide)) (sk_k6 hs) ?_
      refine rn_icmp_ltN (tgt := 23) dX4_readKept_18 (by decide) (by omega) (by omega) (fun c_18 => ?_) (fun c_18 => ?_)
      · have hdc9 := hs.2.2.2.1 a.1 c (by omega) hr
        have hdc := hdc9.2.2
        have hc1 : isDD I1 c (c + 1) D := hc.kept (hFa.1 c (by omega) (by omega)) (hFa.1 (c + 1) (by omega) (by omega))
        refine rn_aload_n dX4_readKept_23 rfl rfl ?_
        refine rn_getR (r := 6) dX4_readKept_24 fd_4_15 (sk_l hs 18 (by decide)) (sk_k18 hs) rfl (sk_r18_2 hs) ?_
        refine rn_iload_n dX4_readKept_27 rfl rfl ?_
        refine rn_aaloadN dX4_readKept_28 (sk_l hs 6 (by decide)) (sk_k6 hs) (by omega) (by omega) ?_
        refine rn_topv (y := .ref c) (by rw [hr]; rfl) ?_
        refine rn_astore_n (ls' := [some (.ref 18), some (.ref (21 + 2 * sl)), some (.int (nI a.1)), some (.ref c)]) dX4_readKept_29 rfl (by decide) rfl rfl ?_
        refine rn_aload_n dX4_readKept_30 rfl rfl ?_
        refine rn_ifnonnull (tgt := 50) dX4_readKept_31 (by decide) ?_
        refine rn_aload_n dX4_readKept_50 rfl rfl ?_
        refine rn_aload_n dX4_readKept_51 rfl rfl ?_
        refine rn_callV0 (st := []) dX4_readKept_52 cf_4_64 (c_copyD hd hdc (by omega) hc1) (by omega) hd.1 hd.2.1 rfl rfl (Nat.le_of_ble_eq_true rfl) (fun r1 S1 I2 hq => ?_)
        obtain ⟨rfl, rfl, hD3, hF3⟩ := hq
        refine rn_iconst (v := nI 1) dX4_readKept_55 (by decide) ?_
        refine rn_ireturn dX4_readKept_56 rfl (by decide) ?_
        exact ⟨rfl, (hFa.fr sl).dd hsl hF3, Or.inr ⟨(D, a.2), by rw [bnd_r, hn], rfl, by rw [hF3 16 (by omega) (by omega), h16a], hD3, by rw [hF3 19 (by omega) (by omega)]; exact h4a⟩⟩
      · omega
