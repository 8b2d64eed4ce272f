def eqD (D E : Dw) : Prop := D.1 = E.1 ∧ D.2.1 = E.2.1 ∧ ∀ i j, nInner D.1 D.2.1 i j = true → D.2.2 i j = E.2.2 i j
theorem eqD.symm {D E : Dw} (h : eqD D E) : eqD E D := ⟨h.1.symm, h.2.1.symm, fun i j q => (h.2.2 i j (by rw [h.1, h.2.1]; exact q)).symm⟩
theorem gv_eq {D E : Dw} (h : eqD D E) (i j : Nat) : gv D.1 D.2.1 D.2.2 i j = gv E.1 E.2.1 E.2.2 i j := by
  unfold gv
  rw [← h.1, ← h.2.1]
  split
  · rename_i q; exact h.2.2 i j q
  · rfl
theorem eq_X {I : am_I} {a q a0 q0 : Nat} {D E : Dw} (hO : okD D) (hE : okD E) (h1 : isDD I a q D) (h2 : isDD I a0 q0 E) : (D.1 = E.1 ∧ D.2.1 = E.2.1 ∧ ∀ p, p < 128 → I q p = I q0 p) ↔ eqD D E := by
  constructor
  · rintro ⟨e1, e2, e3⟩
    refine ⟨e1, e2, fun i j hin => ?_⟩
    have hb := nIn.mp hin
    have w8 := hO.1.2
    have h8 := hO.2.1.2
    have q1 := isDr.at h1 hO.1.2 hO.2.1.2 hin
    have hin2 : nInner E.1 E.2.1 i j = true := by rw [← e1, ← e2]; exact hin
    have q2 := isDr.at h2 hE.1.2 hE.2.1.2 hin2
    rw [e3 _ (by omega), q2] at q1
    have b1 := hO.2.2 i j hin
    have b2 := hE.2.2 i j hin2
    exact ((nI_eq (by omega) (by omega)).mp q1).symm
  · intro h
    exact ⟨h.1, h.2.1, fun p hp => by rw [h1.2.2 p hp, h2.2.2 p hp, gv_eq h]⟩
theorem eq_M {I : am_I} {f g : Nat} {D E : Dw} (hO : okD D) (hE : okD E) (h1 : grD I f D) (h2 : grD I g E) : (D.1 = E.1 ∧ D.2.1 = E.2.1 ∧ ∀ k, k < 289 → I 47 (289 * f + k) = I 47 (289 * g + k)) ↔ eqD D E := by
  constructor
  · rintro ⟨e1, e2, e3⟩
    refine ⟨e1, e2, fun i j hin => ?_⟩
    have hb := nIn.mp hin
    have w8 := hO.1.2
    have h8 := hO.2.1.2
    have q := e3 (17 * j + i) (by omega)
    rw [← Nat.add_assoc, ← Nat.add_assoc, h1.2.2 i j (by omega) (by omega), h2.2.2 i j (by omega) (by omega)] at q
    have hin2 : nInner E.1 E.2.1 i j = true := by rw [← e1, ← e2]; exact hin
    have b1 := hO.2.2 i j hin
    have b2 := hE.2.2 i j hin2
    rw [show gv D.1 D.2.1 D.2.2 i j = D.2.2 i j from if_pos hin, show gv E.1 E.2.1 E.2.2 i j = E.2.2 i j from if_pos hin2] at q
    exact (nI_eq (by omega) (by omega)).mp q
  · intro h
    refine ⟨h.1, h.2.1, fun k hk => ?_⟩
    have q1 := h1.2.2 (k % 17) (k / 17) (by omega) (by omega)
    have q2 := h2.2.2 (k % 17) (k / 17) (by omega) (by omega)
    rw [show 289 * f + 17 * (k / 17) + k % 17 = 289 * f + k by omega] at q1
    rw [show 289 * g + 17 * (k / 17) + k % 17 = 289 * g + k by omega] at q2
    rw [q1, q2, gv_eq h]
def TT (t f : Nat) (D : Dw) : Dw := (twid D.1 D.2.1 t, thig D.1 D.2.1 t, tfM t f D.1 D.2.1 D.2.2)
theorem okD_flip {D : Dw} (h : okD D) : okD (oFlip D) := ⟨h.1, h.2.1, okM_f h.2.2⟩
theorem okD_turn {D : Dw} (h : okD D) : okD (oTurn D) := ⟨h.2.1, h.1, okM_t h.2.2⟩
theorem okD_T0 {D : Dw} (h : okD D) : okD (TT 0 0 D) := h
theorem okD_T1 {D : Dw} (h : okD D) : okD (TT 1 0 D) := okD_turn h
theorem okD_T2 {D : Dw} (h : okD D) : okD (TT 2 0 D) := ⟨h.1, h.2.1, fun i j q => by
  have hb := nIn.mp (show nInner D.1 D.2.1 i j = true from q)
  exact h.2.2 (2 * D.1 - i) (2 * D.2.1 - j) (nIn.mpr (by omega))⟩
theorem okD_T3 {D : Dw} (h : okD D) : okD (TT 3 0 D) := ⟨h.2.1, h.1, fun i j q => by
  have hb := nIn.mp (show nInner D.2.1 D.1 i j = true from q)
  exact sw_le (h.2.2 (2 * D.1 - j) i (nIn.mpr (by omega)))⟩
def bN (b : Bool) : Nat := if b = true then 1 else 0
theorem bN_le (b : Bool) : bN b ≤ 1 := by cases b <;> decide
noncomputable def wyN (K D : Dw) : Nat → Nat
  | 0 => 0
  | t + 1 => wyN K D t + bN (pb (eqD (TT t 0 K) D)) + bN (pb (eqD (TT t 1 K) D))
theorem wyN_le (K D : Dw) : ∀ t, wyN K D t ≤ 2 * t
  | 0 => Nat.le_refl _
  | t + 1 => by
    have h1 := wyN_le K D t
    have h2 := bN_le (pb (eqD (TT t 0 K) D))
    have h3 := bN_le (pb (eqD (TT t 1 K) D))
    show wyN K D t + _ + _ ≤ _
    omega
theorem wy_pos {K D : Dw} : ∀ {n : Nat}, 0 < wyN K D n ↔ ∃ t, t < n ∧ ∃ f, f < 2 ∧ eqD (TT t f K) D := by
  intro n
  induction n with
  | zero => exact ⟨fun h => absurd h (Nat.lt_irrefl _), fun ⟨t, h, _⟩ => absurd h (Nat.not_lt_zero _)⟩
  | succ n ih =>
    have e : wyN K D (n + 1) = wyN K D n + bN (pb (eqD (TT n 0 K) D)) + bN (pb (eqD (TT n 1 K) D)) := rfl
    rw [e]
    by_cases h0 : eqD (TT n 0 K) D
    · rw [pb_t h0]
      exact ⟨fun _ => ⟨n, Nat.lt_succ_self _, 0, by decide, h0⟩, fun _ => by show 0 < wyN K D n + 1 + _; omega⟩
    · by_cases h1 : eqD (TT n 1 K) D
      · rw [pb_t h1]
        exact ⟨fun _ => ⟨n, Nat.lt_succ_self _, 1, by decide, h1⟩, fun _ => by show 0 < wyN K D n + _ + 1; omega⟩
      · rw [pb_f h0, pb_f h1]
        show 0 < wyN K D n + 0 + 0 ↔ _
        rw [Nat.add_zero, Nat.add_zero, ih]
        constructor
        · rintro ⟨t, a, f, b, c⟩; exact ⟨t, by omega, f, b, c⟩
        · rintro ⟨t, a, f, b, c⟩
          by_cases ht : t = n
          · subst ht
            rcases (show f = 0 ∨ f = 1 by omega) with rfl | rfl
            · exact absurd c h0
            · exact absurd c h1
          · exact ⟨t, by omega, f, b, c⟩
/-- each of the eight comes back by one of the eight -/
theorem tt_inv {K D : Dw} (hK : okD K) {t f : Nat} (ht : t < 4) (hf : f < 2) (h : eqD (TT t f K) D) : ∃ t', t' < 4 ∧ ∃ f', f' < 2 ∧ eqD (TT t' f' D) K := by
  obtain ⟨w, h0, M⟩ := K
  obtain ⟨w', h', N⟩ := D
  have hM := hK.2.2
  obtain ⟨e1, e2, e3⟩ := h
  rcases (show t = 0 ∨ t = 1 ∨ t = 2 ∨ t = 3 by omega) with rfl | rfl | rfl | rfl <;> rcases (show f = 0 ∨ f = 1 by omega) with rfl | rfl
  · obtain rfl : w = w' := e1
    obtain rfl : h0 = h' := e2
    refine ⟨0, by decide, 0, by decide, rfl, rfl, fun i j hij => ?_⟩
    exact (e3 i j hij).symm
  · obtain rfl : w = w' := e1
    obtain rfl : h0 = h' := e2
    refine ⟨0, by decide, 1, by decide, rfl, rfl, fun i j hij => ?_⟩
    have hb := nIn.mp (show nInner w h0 i j = true from hij)
    have q : M (2 * w - (2 * w - i)) j = N (2 * w - i) j := e3 (2 * w - i) j (nIn.mpr (by show 0 < 2 * w - i ∧ 2 * w - i < 2 * w ∧ 0 < j ∧ j < 2 * h0 ∧ _; omega))
    show N (2 * w - i) j = M i j
    rw [← q, show 2 * w - (2 * w - i) = i by omega]
  · obtain rfl : h0 = w' := e1
    obtain rfl : w = h' := e2
    refine ⟨3, by decide, 0, by decide, rfl, rfl, fun i j hij => ?_⟩
    have hb := nIn.mp (show nInner w h0 i j = true from hij)
    have q : sw (M i (2 * h0 - (2 * h0 - j))) = N (2 * h0 - j) i := e3 (2 * h0 - j) i (nIn.mpr (by show 0 < 2 * h0 - j ∧ 2 * h0 - j < 2 * h0 ∧ 0 < i ∧ i < 2 * w ∧ _; omega))
    show sw (N (2 * h0 - j) i) = M i j
    rw [← q, show 2 * h0 - (2 * h0 - j) = j by omega]
    exact sw_sw (hM i j hij)
  · obtain rfl : h0 = w' := e1
    obtain rfl : w = h' := e2
    refine ⟨1, by decide, 1, by decide, rfl, rfl, fun i j hij => ?_⟩
    have hb := nIn.mp (show nInner w h0 i j = true from hij)
    have q : sw (M i (2 * h0 - (2 * h0 - j))) = N j i := e3 j i (nIn.mpr (by show 0 < j ∧ j < 2 * h0 ∧ 0 < i ∧ i < 2 * w ∧ _; omega))
    show sw (N j (2 * w - (2 * w - i))) = M i j
    rw [show 2 * w - (2 * w - i) = i by omega, ← q, show 2 * h0 - (2 * h0 - j) = j by omega]
    exact sw_sw (hM i j hij)
  · obtain rfl : w = w' := e1
    obtain rfl : h0 = h' := e2
    refine ⟨2, by decide, 0, by decide, rfl, rfl, fun i j hij => ?_⟩
    have hb := nIn.mp (show nInner w h0 i j = true from hij)
    have q : M (2 * w - (2 * w - i)) (2 * h0 - (2 * h0 - j)) = N (2 * w - i) (2 * h0 - j) := e3 (2 * w - i) (2 * h0 - j) (nIn.mpr (by show 0 < 2 * w - i ∧ 2 * w - i < 2 * w ∧ 0 < 2 * h0 - j ∧ 2 * h0 - j < 2 * h0 ∧ _; omega))
    show N (2 * w - i) (2 * h0 - j) = M i j
    rw [← q, show 2 * w - (2 * w - i) = i by omega, show 2 * h0 - (2 * h0 - j) = j by omega]
  · obtain rfl : w = w' := e1
    obtain rfl : h0 = h' := e2
    refine ⟨2, by decide, 1, by decide, rfl, rfl, fun i j hij => ?_⟩
    have hb := nIn.mp (show nInner w h0 i j = true from hij)
    have q : M (2 * w - (2 * w - i)) (2 * h0 - (2 * h0 - j)) = N i (2 * h0 - j) := e3 i (2 * h0 - j) (nIn.mpr (by show 0 < i ∧ i < 2 * w ∧ 0 < 2 * h0 - j ∧ 2 * h0 - j < 2 * h0 ∧ _; omega))
    show N (2 * w - (2 * w - i)) (2 * h0 - j) = M i j
    rw [show 2 * w - (2 * w - i) = i by omega, ← q, show 2 * w - (2 * w - i) = i by omega, show 2 * h0 - (2 * h0 - j) = j by omega]
  · obtain rfl : h0 = w' := e1
    obtain rfl : w = h' := e2
    refine ⟨1, by decide, 0, by decide, rfl, rfl, fun i j hij => ?_⟩
    have hb := nIn.mp (show nInner w h0 i j = true from hij)
    have q : sw (M (2 * w - (2 * w - i)) j) = N j (2 * w - i) := e3 j (2 * w - i) (nIn.mpr (by show 0 < j ∧ j < 2 * h0 ∧ 0 < 2 * w - i ∧ 2 * w - i < 2 * w ∧ _; omega))
    show sw (N j (2 * w - i)) = M i j
    rw [← q, show 2 * w - (2 * w - i) = i by omega]
    exact sw_sw (hM i j hij)
  · obtain rfl : h0 = w' := e1
    obtain rfl : w = h' := e2
    refine ⟨3, by decide, 1, by decide, rfl, rfl, fun i j hij => ?_⟩
    have hb := nIn.mp (show nInner w h0 i j = true from hij)
    have q : sw (M (2 * w - (2 * w - i)) (2 * h0 - (2 * h0 - j))) = N (2 * h0 - j) (2 * w - i) := e3 (2 * h0 - j) (2 * w - i) (nIn.mpr (by show 0 < 2 * h0 - j ∧ 2 * h0 - j < 2 * h0 ∧ 0 < 2 * w - i ∧ 2 * w - i < 2 * w ∧ _; omega))
    show sw (N (2 * h0 - j) (2 * w - i)) = M i j
    rw [← q, show 2 * w - (2 * w - i) = i by omega, show 2 * h0 - (2 * h0 - j) = j by omega]
    exact sw_sw (hM i j hij)
theorem wy_sym {K D : Dw} (hK : okD K) (hD : okD D) : 0 < wyN K D 4 ↔ 0 < wyN D K 4 := by
  rw [wy_pos, wy_pos]
  exact ⟨fun ⟨t, a, f, b, c⟩ => tt_inv hK a b c, fun ⟨t, a, f, b, c⟩ => tt_inv hD a b c⟩
theorem gr_ff {I : am_I} {D : Dw} (h : grD I 18 (oFlip (oFlip D))) : grD I 18 D := isGr.congr h (fun i j q => by
  have hb := nIn.mp q
  show D.2.2 (2 * D.1 - (2 * D.1 - i)) j = D.2.2 i j
  rw [show 2 * D.1 - (2 * D.1 - i) = i by omega])
theorem gr_t1 {I : am_I} {D : Dw} (h : grD I 18 (oTurn (TT 0 0 D))) : grD I 18 (TT 1 0 D) := h
theorem gr_t2 {I : am_I} {D : Dw} (hO : okD D) (h : grD I 18 (oTurn (TT 1 0 D))) : grD I 18 (TT 2 0 D) := isGr.congr h (fun i j q => by
  have hb := nIn.mp (show nInner D.1 D.2.1 i j = true from q)
  show sw (sw (D.2.2 (2 * D.1 - i) (2 * D.2.1 - j))) = D.2.2 (2 * D.1 - i) (2 * D.2.1 - j)
  exact sw_sw (hO.2.2 _ _ (nIn.mpr (by omega))))
theorem gr_t3 {I : am_I} {D : Dw} (h : grD I 18 (oTurn (TT 2 0 D))) : grD I 18 (TT 3 0 D) := isGr.congr h (fun i j q => by
  have hb := nIn.mp (show nInner D.2.1 D.1 i j = true from q)
  show sw (D.2.2 (2 * D.1 - j) (2 * D.2.1 - (2 * D.2.1 - i))) = sw (D.2.2 (2 * D.1 - j) i)
  rw [show 2 * D.2.1 - (2 * D.2.1 - i) = i by omega])
theorem c_tt_00 {S : am_S} {I : am_I} {a q a0 q0 : Nat} {D : Dw} (hd : am_dr S a q) (hd0 : am_dr S a0 q0) (hne : a0 ≠ a) (hq : q0 ≠ q) (hD : okD D) (h1 : isDD I a0 q0 D) : am_Mt 2 Y_X0_takeTurned (0, 0) [.ref a, .ref a0, .int (nI 0), .int (nI 0)] S I (fun r S' I' => r = none ∧ S' = S ∧ isDD I' a q (TT 0 0 D) ∧ ∀ b, b ≠ a → b ≠ q → I' b = I b) := by
  refine (c_X0_takeTurned_00 hd hd0 hne hq hD.1.1 hD.1.2 hD.2.1.1 hD.2.1.2 h1.1 h1.2.1).mono (fun r S' I' h => ?_)
  obtain ⟨e1, e2, e3⟩ := h
  have g := isDr_turned (t := 0) (f := 0) hd hd0 hne hq hD.1.2 hD.2.1.2 (by decide) (by decide) hD.2.2 h1
  exact ⟨e1, e2, by rw [e3]; exact g.1, fun b b1 b2 => by rw [e3]; exact g.2 b b1 b2⟩
theorem c_tt_01 {S : am_S} {I : am_I} {a q a0 q0 : Nat} {D : Dw} (hd : am_dr S a q) (hd0 : am_dr S a0 q0) (hne : a0 ≠ a) (hq : q0 ≠ q) (hD : okD D) (h1 : isDD I a0 q0 D) : am_Mt 2 Y_X0_takeTurned (0, 0) [.ref a, .ref a0, .int (nI 0), .int (nI 1)] S I (fun r S' I' => r = none ∧ S' = S ∧ isDD I' a q (TT 0 1 D) ∧ ∀ b, b ≠ a → b ≠ q → I' b = I b) := by
  refine (c_X0_takeTurned_01 hd hd0 hne hq hD.1.1 hD.1.2 hD.2.1.1 hD.2.1.2 h1.1 h1.2.1).mono (fun r S' I' h => ?_)
  obtain ⟨e1, e2, e3⟩ := h
  have g := isDr_turned (t := 0) (f := 1) hd hd0 hne hq hD.1.2 hD.2.1.2 (by decide) (by decide) hD.2.2 h1
  exact ⟨e1, e2, by rw [e3]; exact g.1, fun b b1 b2 => by rw [e3]; exact g.2 b b1 b2⟩
theorem c_tt_10 {S : am_S} {I : am_I} {a q a0 q0 : Nat} {D : Dw} (hd : am_dr S a q) (hd0 : am_dr S a0 q0) (hne : a0 ≠ a) (hq : q0 ≠ q) (hD : okD D) (h1 : isDD I a0 q0 D) : am_Mt 2 Y_X0_takeTurned (0, 0) [.ref a, .ref a0, .int (nI 1), .int (nI 0)] S I (fun r S' I' => r = none ∧ S' = S ∧ isDD I' a q (TT 1 0 D) ∧ ∀ b, b ≠ a → b ≠ q → I' b = I b) := by
  refine (c_X0_takeTurned_10 hd hd0 hne hq hD.1.1 hD.1.2 hD.2.1.1 hD.2.1.2 h1.1 h1.2.1).mono (fun r S' I' h => ?_)
  obtain ⟨e1, e2, e3⟩ := h
  have g := isDr_turned (t := 1) (f := 0) hd hd0 hne hq hD.1.2 hD.2.1.2 (by decide) (by decide) hD.2.2 h1
  exact ⟨e1, e2, by rw [e3]; exact g.1, fun b b1 b2 => by rw [e3]; exact g.2 b b1 b2⟩
theorem c_tt_11 {S : am_S} {I : am_I} {a q a0 q0 : Nat} {D : Dw} (hd : am_dr S a q) (hd0 : am_dr S a0 q0) (hne : a0 ≠ a) (hq : q0 ≠ q) (hD : okD D) (h1 : isDD I a0 q0 D) : am_Mt 2 Y_X0_takeTurned (0, 0) [.ref a, .ref a0, .int (nI 1), .int (nI 1)] S I (fun r S' I' => r = none ∧ S' = S ∧ isDD I' a q (TT 1 1 D) ∧ ∀ b, b ≠ a → b ≠ q → I' b = I b) := by
  refine (c_X0_takeTurned_11 hd hd0 hne hq hD.1.1 hD.1.2 hD.2.1.1 hD.2.1.2 h1.1 h1.2.1).mono (fun r S' I' h => ?_)
  obtain ⟨e1, e2, e3⟩ := h
  have g := isDr_turned (t := 1) (f := 1) hd hd0 hne hq hD.1.2 hD.2.1.2 (by decide) (by decide) hD.2.2 h1
  exact ⟨e1, e2, by rw [e3]; exact g.1, fun b b1 b2 => by rw [e3]; exact g.2 b b1 b2⟩
theorem c_tt_20 {S : am_S} {I : am_I} {a q a0 q0 : Nat} {D : Dw} (hd : am_dr S a q) (hd0 : am_dr S a0 q0) (hne : a0 ≠ a) (hq : q0 ≠ q) (hD : okD D) (h1 : isDD I a0 q0 D) : am_Mt 2 Y_X0_takeTurned (0, 0) [.ref a, .ref a0, .int (nI 2), .int (nI 0)] S I (fun r S' I' => r = none ∧ S' = S ∧ isDD I' a q (TT 2 0 D) ∧ ∀ b, b ≠ a → b ≠ q → I' b = I b) := by
  refine (c_X0_takeTurned_20 hd hd0 hne hq hD.1.1 hD.1.2 hD.2.1.1 hD.2.1.2 h1.1 h1.2.1).mono (fun r S' I' h => ?_)
  obtain ⟨e1, e2, e3⟩ := h
  have g := isDr_turned (t := 2) (f := 0) hd hd0 hne hq hD.1.2 hD.2.1.2 (by decide) (by decide) hD.2.2 h1
  exact ⟨e1, e2, by rw [e3]; exact g.1, fun b b1 b2 => by rw [e3]; exact g.2 b b1 b2⟩
theorem c_tt_21 {S : am_S} {I : am_I} {a q a0 q0 : Nat} {D : Dw} (hd : am_dr S a q) (hd0 : am_dr S a0 q0) (hne : a0 ≠ a) (hq : q0 ≠ q) (hD : okD D) (h1 : isDD I a0 q0 D) : am_Mt 2 Y_X0_takeTurned (0, 0) [.ref a, .ref a0, .int (nI 2), .int (nI 1)] S I (fun r S' I' => r = none ∧ S' = S ∧ isDD I' a q (TT 2 1 D) ∧ ∀ b, b ≠ a → b ≠ q → I' b = I b) := by
  refine (c_X0_takeTurned_21 hd hd0 hne hq hD.1.1 hD.1.2 hD.2.1.1 hD.2.1.2 h1.1 h1.2.1).mono (fun r S' I' h => ?_)
  obtain ⟨e1, e2, e3⟩ := h
  have g := isDr_turned (t := 2) (f := 1) hd hd0 hne hq hD.1.2 hD.2.1.2 (by decide) (by decide) hD.2.2 h1
  exact ⟨e1, e2, by rw [e3]; exact g.1, fun b b1 b2 => by rw [e3]; exact g.2 b b1 b2⟩
theorem c_tt_30 {S : am_S} {I : am_I} {a q a0 q0 : Nat} {D : Dw} (hd : am_dr S a q) (hd0 : am_dr S a0 q0) (hne : a0 ≠ a) (hq : q0 ≠ q) (hD : okD D) (h1 : isDD I a0 q0 D) : am_Mt 2 Y_X0_takeTurned (0, 0) [.ref a, .ref a0, .int (nI 3), .int (nI 0)] S I (fun r S' I' => r = none ∧ S' = S ∧ isDD I' a q (TT 3 0 D) ∧ ∀ b, b ≠ a → b ≠ q → I' b = I b) := by
  refine (c_X0_takeTurned_30 hd hd0 hne hq hD.1.1 hD.1.2 hD.2.1.1 hD.2.1.2 h1.1 h1.2.1).mono (fun r S' I' h => ?_)
  obtain ⟨e1, e2, e3⟩ := h
  have g := isDr_turned (t := 3) (f := 0) hd hd0 hne hq hD.1.2 hD.2.1.2 (by decide) (by decide) hD.2.2 h1
  exact ⟨e1, e2, by rw [e3]; exact g.1, fun b b1 b2 => by rw [e3]; exact g.2 b b1 b2⟩
theorem c_tt_31 {S : am_S} {I : am_I} {a q a0 q0 : Nat} {D : Dw} (hd : am_dr S a q) (hd0 : am_dr S a0 q0) (hne : a0 ≠ a) (hq : q0 ≠ q) (hD : okD D) (h1 : isDD I a0 q0 D) : am_Mt 2 Y_X0_takeTurned (0, 0) [.ref a, .ref a0, .int (nI 3), .int (nI 1)] S I (fun r S' I' => r = none ∧ S' = S ∧ isDD I' a q (TT 3 1 D) ∧ ∀ b, b ≠ a → b ≠ q → I' b = I b) := by
  refine (c_X0_takeTurned_31 hd hd0 hne hq hD.1.1 hD.1.2 hD.2.1.1 hD.2.1.2 h1.1 h1.2.1).mono (fun r S' I' h => ?_)
  obtain ⟨e1, e2, e3⟩ := h
  have g := isDr_turned (t := 3) (f := 1) hd hd0 hne hq hD.1.2 hD.2.1.2 (by decide) (by decide) hD.2.2 h1
  exact ⟨e1, e2, by rw [e3]; exact g.1, fun b b1 b2 => by rw [e3]; exact g.2 b b1 b2⟩
set_option maxHeartbeats 1000000 in
set_option maxRecDepth 100000 in
theorem c_X7_waysFrom {S : am_S} (hs : sk S) {I : am_I} {c q : Nat} {K D : Dw} (hdc : am_dr S c q) (hc3 : c ≠ 3) (hc4 : c ≠ 4) (hq3 : q ≠ 3) (hq4 : q ≠ 4) (hK : okD K) (hOD : okD D) (hDK : isDD I c q K) (hD : isDD I 1 2 D) : am_Mt 3 Y_X7_waysFrom (0, 0) [.ref 0, .ref c] S I (fun r S' I' => r = some (.int (nI (wyN K D 4))) ∧ S' = S ∧ ∀ b, b ≠ 3 → b ≠ 4 → I' b = I b) := by
  have hl4 := wyN_le K D 4
  have L4 : ∀ J : am_I, (∀ b, b ≠ 3 → b ≠ 4 → J b = I b) → am_Rn 3 Y_X7_waysFrom (0, 0) 4 [some (.ref 0), some (.ref c), some (.int (nI (wyN K D 4))), some (.int (nI 4))] [] S J (fun r S' I' => r = some (.int (nI (wyN K D 4))) ∧ S' = S ∧ ∀ b, b ≠ 3 → b ≠ 4 → I' b = I b) := by
    intro J hJ
    refine rn_iload_n dX7_waysFrom_4 rfl rfl ?_
    refine rn_iconst (v := nI 4) dX7_waysFrom_5 (by decide) ?_
    refine rn_icmp_geN (tgt := 79) dX7_waysFrom_6 (by decide) (by omega) (by omega) (fun c_6 => ?_) (fun c_6 => ?_)
    · refine rn_iload_n dX7_waysFrom_79 rfl rfl ?_
      refine rn_ireturn dX7_waysFrom_80 rfl (vp_nar_int _) ?_
      exact ⟨rfl, rfl, hJ⟩
    · exact absurd c_6 (by decide)
  have L3 : ∀ J : am_I, (∀ b, b ≠ 3 → b ≠ 4 → J b = I b) → am_Rn 3 Y_X7_waysFrom (0, 0) 4 [some (.ref 0), some (.ref c), some (.int (nI (wyN K D 3))), some (.int (nI 3))] [] S J (fun r S' I' => r = some (.int (nI (wyN K D 4))) ∧ S' = S ∧ ∀ b, b ≠ 3 → b ≠ 4 → I' b = I b) := by
    intro J hJ
    have hO0 : okD (TT 3 0 K) := okD_T3 hK
    have hO1 : okD (TT 3 1 K) := okD_flip hO0
    refine rn_iload_n dX7_waysFrom_4 rfl rfl ?_
    refine rn_iconst (v := nI 4) dX7_waysFrom_5 (by decide) ?_
    refine rn_icmp_geN (tgt := 79) dX7_waysFrom_6 (by decide) (by omega) (by omega) (fun c_6 => ?_) (fun c_6 => ?_)
    · exact absurd c_6 (by decide)
    · refine rn_aload_n dX7_waysFrom_9 rfl rfl ?_
      refine rn_getR (r := 3) dX7_waysFrom_10 fd_7_29 (sk_l hs 0 (by decide)) (sk_k0 hs) rfl (sk_r0_1 hs) ?_
      refine rn_aload_n dX7_waysFrom_13 rfl rfl ?_
      refine rn_iload_n dX7_waysFrom_14 rfl rfl ?_
      refine rn_iconst (v := nI 0) dX7_waysFrom_15 (by decide) ?_
      refine rn_callV0 (st := []) dX7_waysFrom_16 cf_7_231 (c_tt_30 (sk_d3 hs) hdc hc3 hq4 hK (hDK.kept (hJ c hc3 hc4) (hJ q hq3 hq4))) (by omega) (sk_d3 hs).1 (sk_d3 hs).2.1 rfl rfl (Nat.le_of_ble_eq_true rfl) (fun r1 S1 J1 hq => ?_)
      obtain ⟨rfl, rfl, hT1, hF1⟩ := hq
      refine rn_iload_n dX7_waysFrom_19 rfl rfl ?_
      refine rn_aload_n dX7_waysFrom_20 rfl rfl ?_
      refine rn_getR (r := 3) dX7_waysFrom_21 fd_7_29 (sk_l hs 0 (by decide)) (sk_k0 hs) rfl (sk_r0_1 hs) ?_
      refine rn_aload_n dX7_waysFrom_24 rfl rfl ?_
      refine rn_getR (r := 1) dX7_waysFrom_25 fd_7_10 (sk_l hs 0 (by decide)) (sk_k0 hs) rfl (sk_r0_0 hs) ?_
      refine rn_callVq (st := [.int (nI (wyN K D 3))]) dX7_waysFrom_28 cf_7_198 (c_X0_isSameAs (sk_d3 hs) hT1.1 hT1.2.1 (hO0).1.2 (hO0).2.1.2 (sk_d1 hs) (hD.kept ((hF1 1 (by decide) (by decide)).trans (hJ 1 (by decide) (by decide))) ((hF1 2 (by decide) (by decide)).trans (hJ 2 (by decide) (by decide)))).1 (hD.kept ((hF1 1 (by decide) (by decide)).trans (hJ 1 (by decide) (by decide))) ((hF1 2 (by decide) (by decide)).trans (hJ 2 (by decide) (by decide)))).2.1 hOD.1.2 hOD.2.1.2) (by omega) (sk_d3 hs).1 (sk_d3 hs).2.1 rfl rfl (Nat.le_of_ble_eq_true rfl) ?_
      refine rn_top (y := am_b (pb (eqD (TT 3 0 K) D))) (congrArg am_b (pb_congr (eq_X hO0 hOD hT1 (hD.kept ((hF1 1 (by decide) (by decide)).trans (hJ 1 (by decide) (by decide))) ((hF1 2 (by decide) (by decide)).trans (hJ 2 (by decide) (by decide))))))) ?_
      refine rn_if_eqB (tgt := 38) dX7_waysFrom_31 (by decide) (fun c_31 => ?_) (fun c_31 => ?_)
      · refine rn_iconst (v := nI 0) dX7_waysFrom_38 (by decide) ?_
        refine rn_iadd dX7_waysFrom_39 ?_
        refine rn_top (nI_add _ _) ?_
        refine rn_top (y := nI (wyN K D 3 + bN (pb (eqD (TT 3 0 K) D)))) (by rw [c_31]; rfl) ?_
        refine rn_istore_n (ls' := [some (.ref 0), some (.ref c), some (.int (nI (wyN K D 3 + bN (pb (eqD (TT 3 0 K) D))))), some (.int (nI 3))]) dX7_waysFrom_40 rfl (by decide) rfl rfl ?_
        refine rn_aload_n dX7_waysFrom_41 rfl rfl ?_
        refine rn_getR (r := 3) dX7_waysFrom_42 fd_7_29 (sk_l hs 0 (by decide)) (sk_k0 hs) rfl (sk_r0_1 hs) ?_
        refine rn_aload_n dX7_waysFrom_45 rfl rfl ?_
        refine rn_iload_n dX7_waysFrom_46 rfl rfl ?_
        refine rn_iconst (v := nI 1) dX7_waysFrom_47 (by decide) ?_
        refine rn_callV0 (st := []) dX7_waysFrom_48 cf_7_231 (c_tt_31 (sk_d3 hs) hdc hc3 hq4 hK (hDK.kept ((hF1 c hc3 hc4).trans (hJ c hc3 hc4)) ((hF1 q hq3 hq4).trans (hJ q hq3 hq4)))) (by omega) (sk_d3 hs).1 (sk_d3 hs).2.1 rfl rfl (Nat.le_of_ble_eq_true rfl) (fun r1 S1 J2 hq => ?_)
        obtain ⟨rfl, rfl, hT2, hF2⟩ := hq
        refine rn_iload_n dX7_waysFrom_51 rfl rfl ?_
        refine rn_aload_n dX7_waysFrom_52 rfl rfl ?_
        refine rn_getR (r := 3) dX7_waysFrom_53 fd_7_29 (sk_l hs 0 (by decide)) (sk_k0 hs) rfl (sk_r0_1 hs) ?_
        refine rn_aload_n dX7_waysFrom_56 rfl rfl ?_
        refine rn_getR (r := 1) dX7_waysFrom_57 fd_7_10 (sk_l hs 0 (by decide)) (sk_k0 hs) rfl (sk_r0_0 hs) ?_
        refine rn_callVq (st := [.int (nI (wyN K D 3 + bN (pb (eqD (TT 3 0 K) D))))]) dX7_waysFrom_60 cf_7_198 (c_X0_isSameAs (sk_d3 hs) hT2.1 hT2.2.1 (hO1).1.2 (hO1).2.1.2 (sk_d1 hs) (hD.kept (((hF2 1 (by decide) (by decide)).trans (hF1 1 (by decide) (by decide))).trans (hJ 1 (by decide) (by decide))) (((hF2 2 (by decide) (by decide)).trans (hF1 2 (by decide) (by decide))).trans (hJ 2 (by decide) (by decide)))).1 (hD.kept (((hF2 1 (by decide) (by decide)).trans (hF1 1 (by decide) (by decide))).trans (hJ 1 (by decide) (by decide))) (((hF2 2 (by decide) (by decide)).trans (hF1 2 (by decide) (by decide))).trans (hJ 2 (by decide) (by decide)))).2.1 hOD.1.2 hOD.2.1.2) (by omega) (sk_d3 hs).1 (sk_d3 hs).2.1 rfl rfl (Nat.le_of_ble_eq_true rfl) ?_
        refine rn_top (y := am_b (pb (eqD (TT 3 1 K) D))) (congrArg am_b (pb_congr (eq_X hO1 hOD hT2 (hD.kept (((hF2 1 (by decide) (by decide)).trans (hF1 1 (by decide) (by decide))).trans (hJ 1 (by decide) (by decide))) (((hF2 2 (by decide) (by decide)).trans (hF1 2 (by decide) (by decide))).trans (hJ 2 (by decide) (by decide))))))) ?_
        refine rn_if_eqB (tgt := 70) dX7_waysFrom_63 (by decide) (fun c_63 => ?_) (fun c_63 => ?_)
        · refine rn_iconst (v := nI 0) dX7_waysFrom_70 (by decide) ?_
          refine rn_iadd dX7_waysFrom_71 ?_
          refine rn_top (nI_add _ _) ?_
          refine rn_top (y := nI (wyN K D 4)) (by show _ = nI (wyN K D 3 + bN (pb (eqD (TT 3 0 K) D)) + bN (pb (eqD (TT 3 1 K) D))); rw [c_63]; rfl) ?_
          refine rn_istore_n (ls' := [some (.ref 0), some (.ref c), some (.int (nI (wyN K D 4))), some (.int (nI 3))]) dX7_waysFrom_72 rfl (by decide) rfl rfl ?_
          refine rn_iinc (v := nI 4) (ls' := [some (.ref 0), some (.ref c), some (.int (nI (wyN K D 4))), some (.int (nI 4))]) dX7_waysFrom_73 rfl (nI_add _ 1) (by decide) rfl rfl ?_
          refine rn_goto (tgt := 4) dX7_waysFrom_76 (by decide) ?_
          exact L4 J2 (fun b h1 h2 => (hF2 b h1 h2).trans ((hF1 b h1 h2).trans (hJ b h1 h2)))
        · refine rn_iconst (v := nI 1) dX7_waysFrom_66 (by decide) ?_
          refine rn_goto (tgt := 71) dX7_waysFrom_67 (by decide) ?_
          refine rn_iadd dX7_waysFrom_71 ?_
          refine rn_top (nI_add _ _) ?_
          refine rn_top (y := nI (wyN K D 4)) (by show _ = nI (wyN K D 3 + bN (pb (eqD (TT 3 0 K) D)) + bN (pb (eqD (TT 3 1 K) D))); rw [c_63]; rfl) ?_
          refine rn_istore_n (ls' := [some (.ref 0), some (.ref c), some (.int (nI (wyN K D 4))), some (.int (nI 3))]) dX7_waysFrom_72 rfl (by decide) rfl rfl ?_
          refine rn_iinc (v := nI 4) (ls' := [some (.ref 0), some (.ref c), some (.int (nI (wyN K D 4))), some (.int (nI 4))]) dX7_waysFrom_73 rfl (nI_add _ 1) (by decide) rfl rfl ?_
          refine rn_goto (tgt := 4) dX7_waysFrom_76 (by decide) ?_
          exact L4 J2 (fun b h1 h2 => (hF2 b h1 h2).trans ((hF1 b h1 h2).trans (hJ b h1 h2)))
      · refine rn_iconst (v := nI 1) dX7_waysFrom_34 (by decide) ?_
        refine rn_goto (tgt := 39) dX7_waysFrom_35 (by decide) ?_
        refine rn_iadd dX7_waysFrom_39 ?_
        refine rn_top (nI_add _ _) ?_
        refine rn_top (y := nI (wyN K D 3 + bN (pb (eqD (TT 3 0 K) D)))) (by rw [c_31]; rfl) ?_
        refine rn_istore_n (ls' := [some (.ref 0), some (.ref c), some (.int (nI (wyN K D 3 + bN (pb (eqD (TT 3 0 K) D))))), some (.int (nI 3))]) dX7_waysFrom_40 rfl (by decide) rfl rfl ?_
        refine rn_aload_n dX7_waysFrom_41 rfl rfl ?_
        refine rn_getR (r := 3) dX7_waysFrom_42 fd_7_29 (sk_l hs 0 (by decide)) (sk_k0 hs) rfl (sk_r0_1 hs) ?_
        refine rn_aload_n dX7_waysFrom_45 rfl rfl ?_
        refine rn_iload_n dX7_waysFrom_46 rfl rfl ?_
        refine rn_iconst (v := nI 1) dX7_waysFrom_47 (by decide) ?_
        refine rn_callV0 (st := []) dX7_waysFrom_48 cf_7_231 (c_tt_31 (sk_d3 hs) hdc hc3 hq4 hK (hDK.kept ((hF1 c hc3 hc4).trans (hJ c hc3 hc4)) ((hF1 q hq3 hq4).trans (hJ q hq3 hq4)))) (by omega) (sk_d3 hs).1 (sk_d3 hs).2.1 rfl rfl (Nat.le_of_ble_eq_true rfl) (fun r1 S1 J2 hq => ?_)
        obtain ⟨rfl, rfl, hT2, hF2⟩ := hq
        refine rn_iload_n dX7_waysFrom_51 rfl rfl ?_
        refine rn_aload_n dX7_waysFrom_52 rfl rfl ?_
        refine rn_getR (r := 3) dX7_waysFrom_53 fd_7_29 (sk_l hs 0 (by decide)) (sk_k0 hs) rfl (sk_r0_1 hs) ?_
        refine rn_aload_n dX7_waysFrom_56 rfl rfl ?_
        refine rn_getR (r := 1) dX7_waysFrom_57 fd_7_10 (sk_l hs 0 (by decide)) (sk_k0 hs) rfl (sk_r0_0 hs) ?_
        refine rn_callVq (st := [.int (nI (wyN K D 3 + bN (pb (eqD (TT 3 0 K) D))))]) dX7_waysFrom_60 cf_7_198 (c_X0_isSameAs (sk_d3 hs) hT2.1 hT2.2.1 (hO1).1.2 (hO1).2.1.2 (sk_d1 hs) (hD.kept (((hF2 1 (by decide) (by decide)).trans (hF1 1 (by decide) (by decide))).trans (hJ 1 (by decide) (by decide))) (((hF2 2 (by decide) (by decide)).trans (hF1 2 (by decide) (by decide))).trans (hJ 2 (by decide) (by decide)))).1 (hD.kept (((hF2 1 (by decide) (by decide)).trans (hF1 1 (by decide) (by decide))).trans (hJ 1 (by decide) (by decide))) (((hF2 2 (by decide) (by decide)).trans (hF1 2 (by decide) (by decide))).trans (hJ 2 (by decide) (by decide)))).2.1 hOD.1.2 hOD.2.1.2) (by omega) (sk_d3 hs).1 (sk_d3 hs).2.1 rfl rfl (Nat.le_of_ble_eq_true rfl) ?_
        refine rn_top (y := am_b (pb (eqD (TT 3 1 K) D))) (congrArg am_b (pb_congr (eq_X hO1 hOD hT2 (hD.kept (((hF2 1 (by decide) (by decide)).trans (hF1 1 (by decide) (by decide))).trans (hJ 1 (by decide) (by decide))) (((hF2 2 (by decide) (by decide)).trans (hF1 2 (by decide) (by decide))).trans (hJ 2 (by decide) (by decide))))))) ?_
        refine rn_if_eqB (tgt := 70) dX7_waysFrom_63 (by decide) (fun c_63 => ?_) (fun c_63 => ?_)
        · refine rn_iconst (v := nI 0) dX7_waysFrom_70 (by decide) ?_
          refine rn_iadd dX7_waysFrom_71 ?_
          refine rn_top (nI_add _ _) ?_
          refine rn_top (y := nI (wyN K D 4)) (by show _ = nI (wyN K D 3 + bN (pb (eqD (TT 3 0 K) D)) + bN (pb (eqD (TT 3 1 K) D))); rw [c_63]; rfl) ?_
          refine rn_istore_n (ls' := [some (.ref 0), some (.ref c), some (.int (nI (wyN K D 4))), some (.int (nI 3))]) dX7_waysFrom_72 rfl (by decide) rfl rfl ?_
          refine rn_iinc (v := nI 4) (ls' := [some (.ref 0), some (.ref c), some (.int (nI (wyN K D 4))), some (.int (nI 4))]) dX7_waysFrom_73 rfl (nI_add _ 1) (by decide) rfl rfl ?_
          refine rn_goto (tgt := 4) dX7_waysFrom_76 (by decide) ?_
          exact L4 J2 (fun b h1 h2 => (hF2 b h1 h2).trans ((hF1 b h1 h2).trans (hJ b h1 h2)))
        · refine rn_iconst (v := nI 1) dX7_waysFrom_66 (by decide) ?_
          refine rn_goto (tgt := 71) dX7_waysFrom_67 (by decide) ?_
          refine rn_iadd dX7_waysFrom_71 ?_
          refine rn_top (nI_add _ _) ?_
          refine rn_top (y := nI (wyN K D 4)) (by show _ = nI (wyN K D 3 + bN (pb (eqD (TT 3 0 K) D)) + bN (pb (eqD (TT 3 1 K) D))); rw [c_63]; rfl) ?_
          refine rn_istore_n (ls' := [some (.ref 0), some (.ref c), some (.int (nI (wyN K D 4))), some (.int (nI 3))]) dX7_waysFrom_72 rfl (by decide) rfl rfl ?_
          refine rn_iinc (v := nI 4) (ls' := [some (.ref 0), some (.ref c), some (.int (nI (wyN K D 4))), some (.int (nI 4))]) dX7_waysFrom_73 rfl (nI_add _ 1) (by decide) rfl rfl ?_
          refine rn_goto (tgt := 4) dX7_waysFrom_76 (by decide) ?_
          exact L4 J2 (fun b h1 h2 => (hF2 b h1 h2).trans ((hF1 b h1 h2).trans (hJ b h1 h2)))
  have L2 : ∀ J : am_I, (∀ b, b ≠ 3 → b ≠ 4 → J b = I b) → am_Rn 3 Y_X7_waysFrom (0, 0) 4 [some (.ref 0), some (.ref c), some (.int (nI (wyN K D 2))), some (.int (nI 2))] [] S J (fun r S' I' => r = some (.int (nI (wyN K D 4))) ∧ S' = S ∧ ∀ b, b ≠ 3 → b ≠ 4 → I' b = I b) := by
    intro J hJ
    have hO0 : okD (TT 2 0 K) := okD_T2 hK
    have hO1 : okD (TT 2 1 K) := okD_flip hO0
    refine rn_iload_n dX7_waysFrom_4 rfl rfl ?_
    refine rn_iconst (v := nI 4) dX7_waysFrom_5 (by decide) ?_
    refine rn_icmp_geN (tgt := 79) dX7_waysFrom_6 (by decide) (by omega) (by omega) (fun c_6 => ?_) (fun c_6 => ?_)
    · exact absurd c_6 (by decide)
    · refine rn_aload_n dX7_waysFrom_9 rfl rfl ?_
      refine rn_getR (r := 3) dX7_waysFrom_10 fd_7_29 (sk_l hs 0 (by decide)) (sk_k0 hs) rfl (sk_r0_1 hs) ?_
      refine rn_aload_n dX7_waysFrom_13 rfl rfl ?_
      refine rn_iload_n dX7_waysFrom_14 rfl rfl ?_
      refine rn_iconst (v := nI 0) dX7_waysFrom_15 (by decide) ?_
      refine rn_callV0 (st := []) dX7_waysFrom_16 cf_7_231 (c_tt_20 (sk_d3 hs) hdc hc3 hq4 hK (hDK.kept (hJ c hc3 hc4) (hJ q hq3 hq4))) (by omega) (sk_d3 hs).1 (sk_d3 hs).2.1 rfl rfl (Nat.le_of_ble_eq_true rfl) (fun r1 S1 J1 hq => ?_)
      obtain ⟨rfl, rfl, hT1, hF1⟩ := hq
      refine rn_iload_n dX7_waysFrom_19 rfl rfl ?_
      refine rn_aload_n dX7_waysFrom_20 rfl rfl ?_
      refine rn_getR (r := 3) dX7_waysFrom_21 fd_7_29 (sk_l hs 0 (by decide)) (sk_k0 hs) rfl (sk_r0_1 hs) ?_
      refine rn_aload_n dX7_waysFrom_24 rfl rfl ?_
      refine rn_getR (r := 1) dX7_waysFrom_25 fd_7_10 (sk_l hs 0 (by decide)) (sk_k0 hs) rfl (sk_r0_0 hs) ?_
      refine rn_callVq (st := [.int (nI (wyN K D 2))]) dX7_waysFrom_28 cf_7_198 (c_X0_isSameAs (sk_d3 hs) hT1.1 hT1.2.1 (hO0).1.2 (hO0).2.1.2 (sk_d1 hs) (hD.kept ((hF1 1 (by decide) (by decide)).trans (hJ 1 (by decide) (by decide))) ((hF1 2 (by decide) (by decide)).trans (hJ 2 (by decide) (by decide)))).1 (hD.kept ((hF1 1 (by decide) (by decide)).trans (hJ 1 (by decide) (by decide))) ((hF1 2 (by decide) (by decide)).trans (hJ 2 (by decide) (by decide)))).2.1 hOD.1.2 hOD.2.1.2) (by omega) (sk_d3 hs).1 (sk_d3 hs).2.1 rfl rfl (Nat.le_of_ble_eq_true rfl) ?_
      refine rn_top (y := am_b (pb (eqD (TT 2 0 K) D))) (congrArg am_b (pb_congr (eq_X hO0 hOD hT1 (hD.kept ((hF1 1 (by decide) (by decide)).trans (hJ 1 (by decide) (by decide))) ((hF1 2 (by decide) (by decide)).trans (hJ 2 (by decide) (by decide))))))) ?_
      refine rn_if_eqB (tgt := 38) dX7_waysFrom_31 (by decide) (fun c_31 => ?_) (fun c_31 => ?_)
      · refine rn_iconst (v := nI 0) dX7_waysFrom_38 (by decide) ?_
        refine rn_iadd dX7_waysFrom_39 ?_
        refine rn_top (nI_add _ _) ?_
        refine rn_top (y := nI (wyN K D 2 + bN (pb (eqD (TT 2 0 K) D)))) (by rw [c_31]; rfl) ?_
        refine rn_istore_n (ls' := [some (.ref 0), some (.ref c), some (.int (nI (wyN K D 2 + bN (pb (eqD (TT 2 0 K) D))))), some (.int (nI 2))]) dX7_waysFrom_40 rfl (by decide) rfl rfl ?_
        refine rn_aload_n dX7_waysFrom_41 rfl rfl ?_
        refine rn_getR (r := 3) dX7_waysFrom_42 fd_7_29 (sk_l hs 0 (by decide)) (sk_k0 hs) rfl (sk_r0_1 hs) ?_
        refine rn_aload_n dX7_waysFrom_45 rfl rfl ?_
        refine rn_iload_n dX7_waysFrom_46 rfl rfl ?_
        refine rn_iconst (v := nI 1) dX7_waysFrom_47 (by decide) ?_
        refine rn_callV0 (st := []) dX7_waysFrom_48 cf_7_231 (c_tt_21 (sk_d3 hs) hdc hc3 hq4 hK (hDK.kept ((hF1 c hc3 hc4).trans (hJ c hc3 hc4)) ((hF1 q hq3 hq4).trans (hJ q hq3 hq4)))) (by omega) (sk_d3 hs).1 (sk_d3 hs).2.1 rfl rfl (Nat.le_of_ble_eq_true rfl) (fun r1 S1 J2 hq => ?_)
        obtain ⟨rfl, rfl, hT2, hF2⟩ := hq
        refine rn_iload_n dX7_waysFrom_51 rfl rfl ?_
        refine rn_aload_n dX7_waysFrom_52 rfl rfl ?_
        refine rn_getR (r := 3) dX7_waysFrom_53 fd_7_29 (sk_l hs 0 (by decide)) (sk_k0 hs) rfl (sk_r0_1 hs) ?_
        refine rn_aload_n dX7_waysFrom_56 rfl rfl ?_
        refine rn_getR (r := 1) dX7_waysFrom_57 fd_7_10 (sk_l hs 0 (by decide)) (sk_k0 hs) rfl (sk_r0_0 hs) ?_
        refine rn_callVq (st := [.int (nI (wyN K D 2 + bN (pb (eqD (TT 2 0 K) D))))]) dX7_waysFrom_60 cf_7_198 (c_X0_isSameAs (sk_d3 hs) hT2.1 hT2.2.1 (hO1).1.2 (hO1).2.1.2 (sk_d1 hs) (hD.kept (((hF2 1 (by decide) (by decide)).trans (hF1 1 (by decide) (by decide))).trans (hJ 1 (by decide) (by decide))) (((hF2 2 (by decide) (by decide)).trans (hF1 2 (by decide) (by decide))).trans (hJ 2 (by decide) (by decide)))).1 (hD.kept (((hF2 1 (by decide) (by decide)).trans (hF1 1 (by decide) (by decide))).trans (hJ 1 (by decide) (by decide))) (((hF2 2 (by decide) (by decide)).trans (hF1 2 (by decide) (by decide))).trans (hJ 2 (by decide) (by decide)))).2.1 hOD.1.2 hOD.2.1.2) (by omega) (sk_d3 hs).1 (sk_d3 hs).2.1 rfl rfl (Nat.le_of_ble_eq_true rfl) ?_
        refine rn_top (y := am_b (pb (eqD (TT 2 1 K) D))) (congrArg am_b (pb_congr (eq_X hO1 hOD hT2 (hD.kept (((hF2 1 (by decide) (by decide)).trans (hF1 1 (by decide) (by decide))).trans (hJ 1 (by decide) (by decide))) (((hF2 2 (by decide) (by decide)).trans (hF1 2 (by decide) (by decide))).trans (hJ 2 (by decide) (by decide))))))) ?_
        refine rn_if_eqB (tgt := 70) dX7_waysFrom_63 (by decide) (fun c_63 => ?_) (fun c_63 => ?_)
        · refine rn_iconst (v := nI 0) dX7_waysFrom_70 (by decide) ?_
          refine rn_iadd dX7_waysFrom_71 ?_
          refine rn_top (nI_add _ _) ?_
          refine rn_top (y := nI (wyN K D 3)) (by show _ = nI (wyN K D 2 + bN (pb (eqD (TT 2 0 K) D)) + bN (pb (eqD (TT 2 1 K) D))); rw [c_63]; rfl) ?_
          refine rn_istore_n (ls' := [some (.ref 0), some (.ref c), some (.int (nI (wyN K D 3))), some (.int (nI 2))]) dX7_waysFrom_72 rfl (by decide) rfl rfl ?_
          refine rn_iinc (v := nI 3) (ls' := [some (.ref 0), some (.ref c), some (.int (nI (wyN K D 3))), some (.int (nI 3))]) dX7_waysFrom_73 rfl (nI_add _ 1) (by decide) rfl rfl ?_
          refine rn_goto (tgt := 4) dX7_waysFrom_76 (by decide) ?_
          exact L3 J2 (fun b h1 h2 => (hF2 b h1 h2).trans ((hF1 b h1 h2).trans (hJ b h1 h2)))
        · refine rn_iconst (v := nI 1) dX7_waysFrom_66 (by decide) ?_
          refine rn_goto (tgt := 71) dX7_waysFrom_67 (by decide) ?_
          refine rn_iadd dX7_waysFrom_71 ?_
          refine rn_top (nI_add _ _) ?_
          refine rn_top (y := nI (wyN K D 3)) (by show _ = nI (wyN K D 2 + bN (pb (eqD (TT 2 0 K) D)) + bN (pb (eqD (TT 2 1 K) D))); rw [c_63]; rfl) ?_
          refine rn_istore_n (ls' := [some (.ref 0), some (.ref c), some (.int (nI (wyN K D 3))), some (.int (nI 2))]) dX7_waysFrom_72 rfl (by decide) rfl rfl ?_
          refine rn_iinc (v := nI 3) (ls' := [some (.ref 0), some (.ref c), some (.int (nI (wyN K D 3))), some (.int (nI 3))]) dX7_waysFrom_73 rfl (nI_add _ 1) (by decide) rfl rfl ?_
          refine rn_goto (tgt := 4) dX7_waysFrom_76 (by decide) ?_
          exact L3 J2 (fun b h1 h2 => (hF2 b h1 h2).trans ((hF1 b h1 h2).trans (hJ b h1 h2)))
      · refine rn_iconst (v := nI 1) dX7_waysFrom_34 (by decide) ?_
        refine rn_goto (tgt := 39) dX7_waysFrom_35 (by decide) ?_
        refine rn_iadd dX7_waysFrom_39 ?_
        refine rn_top (nI_add _ _) ?_
        refine rn_top (y := nI (wyN K D 2 + bN (pb (eqD (TT 2 0 K) D)))) (by rw [c_31]; rfl) ?_
        refine rn_istore_n (ls' := [some (.ref 0), some (.ref c), some (.int (nI (wyN K D 2 + bN (pb (eqD (TT 2 0 K) D))))), some (.int (nI 2))]) dX7_waysFrom_40 rfl (by decide) rfl rfl ?_
        refine rn_aload_n dX7_waysFrom_41 rfl rfl ?_
        refine rn_getR (r := 3) dX7_waysFrom_42 fd_7_29 (sk_l hs 0 (by decide)) (sk_k0 hs) rfl (sk_r0_1 hs) ?_
        refine rn_aload_n dX7_waysFrom_45 rfl rfl ?_
        refine rn_iload_n dX7_waysFrom_46 rfl rfl ?_
        refine rn_iconst (v := nI 1) dX7_waysFrom_47 (by decide) ?_
        refine rn_callV0 (st := []) dX7_waysFrom_48 cf_7_231 (c_tt_21 (sk_d3 hs) hdc hc3 hq4 hK (hDK.kept ((hF1 c hc3 hc4).trans (hJ c hc3 hc4)) ((hF1 q hq3 hq4).trans (hJ q hq3 hq4)))) (by omega) (sk_d3 hs).1 (sk_d3 hs).2.1 rfl rfl (Nat.le_of_ble_eq_true rfl) (fun r1 S1 J2 hq => ?_)
        obtain ⟨rfl, rfl, hT2, hF2⟩ := hq
        refine rn_iload_n dX7_waysFrom_51 rfl rfl ?_
        refine rn_aload_n dX7_waysFrom_52 rfl rfl ?_
        refine rn_getR (r := 3) dX7_waysFrom_53 fd_7_29 (sk_l hs 0 (by decide)) (sk_k0 hs) rfl (sk_r0_1 hs) ?_
        refine rn_aload_n dX7_waysFrom_56 rfl rfl ?_
        refine rn_getR (r := 1) dX7_waysFrom_57 fd_7_10 (sk_l hs 0 (by decide)) (sk_k0 hs) rfl (sk_r0_0 hs) ?_
        refine rn_callVq (st := [.int (nI (wyN K D 2 + bN (pb (eqD (TT 2 0 K) D))))]) dX7_waysFrom_60 cf_7_198 (c_X0_isSameAs (sk_d3 hs) hT2.1 hT2.2.1 (hO1).1.2 (hO1).2.1.2 (sk_d1 hs) (hD.kept (((hF2 1 (by decide) (by decide)).trans (hF1 1 (by decide) (by decide))).trans (hJ 1 (by decide) (by decide))) (((hF2 2 (by decide) (by decide)).trans (hF1 2 (by decide) (by decide))).trans (hJ 2 (by decide) (by decide)))).1 (hD.kept (((hF2 1 (by decide) (by decide)).trans (hF1 1 (by decide) (by decide))).trans (hJ 1 (by decide) (by decide))) (((hF2 2 (by decide) (by decide)).trans (hF1 2 (by decide) (by decide))).trans (hJ 2 (by decide) (by decide)))).2.1 hOD.1.2 hOD.2.1.2) (by omega) (sk_d3 hs).1 (sk_d3 hs).2.1 rfl rfl (Nat.le_of_ble_eq_true rfl) ?_
        refine rn_top (y := am_b (pb (eqD (TT 2 1 K) D))) (congrArg am_b (pb_congr (eq_X hO1 hOD hT2 (hD.kept (((hF2 1 (by decide) (by decide)).trans (hF1 1 (by decide) (by decide))).trans (hJ 1 (by decide) (by decide))) (((hF2 2 (by decide) (by decide)).trans (hF1 2 (by decide) (by decide))).trans (hJ 2 (by decide) (by decide))))))) ?_
        refine rn_if_eqB (tgt := 70) dX7_waysFrom_63 (by decide) (fun c_63 => ?_) (fun c_63 => ?_)
        · refine rn_iconst (v := nI 0) dX7_waysFrom_70 (by decide) ?_
          refine rn_iadd dX7_waysFrom_71 ?_
          refine rn_top (nI_add _ _) ?_
          refine rn_top (y := nI (wyN K D 3)) (by show _ = nI (wyN K D 2 + bN (pb (eqD (TT 2 0 K) D)) + bN (pb (eqD (TT 2 1 K) D))); rw [c_63]; rfl) ?_
          refine rn_istore_n (ls' := [some (.ref 0), some (.ref c), some (.int (nI (wyN K D 3))), some (.int (nI 2))]) dX7_waysFrom_72 rfl (by decide) rfl rfl ?_
          refine rn_iinc (v := nI 3) (ls' := [some (.ref 0), some (.ref c), some (.int (nI (wyN K D 3))), some (.int (nI 3))]) dX7_waysFrom_73 rfl (nI_add _ 1) (by decide) rfl rfl ?_
          refine rn_goto (tgt := 4) dX7_waysFrom_76 (by decide) ?_
          exact L3 J2 (fun b h1 h2 => (hF2 b h1 h2).trans ((hF1 b h1 h2).trans (hJ b h1 h2)))
        · refine rn_iconst (v := nI 1) dX7_waysFrom_66 (by decide) ?_
          refine rn_goto (tgt := 71) dX7_waysFrom_67 (by decide) ?_
          refine rn_iadd dX7_waysFrom_71 ?_
          refine rn_top (nI_add _ _) ?_
          refine rn_top (y := nI (wyN K D 3)) (by show _ = nI (wyN K D 2 + bN (pb (eqD (TT 2 0 K) D)) + bN (pb (eqD (TT 2 1 K) D))); rw [c_63]; rfl) ?_
          refine rn_istore_n (ls' := [some (.ref 0), some (.ref c), some (.int (nI (wyN K D 3))), some (.int (nI 2))]) dX7_waysFrom_72 rfl (by decide) rfl rfl ?_
          refine rn_iinc (v := nI 3) (ls' := [some (.ref 0), some (.ref c), some (.int (nI (wyN K D 3))), some (.int (nI 3))]) dX7_waysFrom_73 rfl (nI_add _ 1) (by decide) rfl rfl ?_
          refine rn_goto (tgt := 4) dX7_waysFrom_76 (by decide) ?_
          exact L3 J2 (fun b h1 h2 => (hF2 b h1 h2).trans ((hF1 b h1 h2).trans (hJ b h1 h2)))
  have L1 : ∀ J : am_I, (∀ b, b ≠ 3 → b ≠ 4 → J b = I b) → am_Rn 3 Y_X7_waysFrom (0, 0) 4 [some (.ref 0), some (.ref c), some (.int (nI (wyN K D 1))), some (.int (nI 1))] [] S J (fun r S' I' => r = some (.int (nI (wyN K D 4))) ∧ S' = S ∧ ∀ b, b ≠ 3 → b ≠ 4 → I' b = I b) := by
    intro J hJ
    have hO0 : okD (TT 1 0 K) := okD_T1 hK
    have hO1 : okD (TT 1 1 K) := okD_flip hO0
    refine rn_iload_n dX7_waysFrom_4 rfl rfl ?_
    refine rn_iconst (v := nI 4) dX7_waysFrom_5 (by decide) ?_
    refine rn_icmp_geN (tgt := 79) dX7_waysFrom_6 (by decide) (by omega) (by omega) (fun c_6 => ?_) (fun c_6 => ?_)
    · exact absurd c_6 (by decide)
    · refine rn_aload_n dX7_waysFrom_9 rfl rfl ?_
      refine rn_getR (r := 3) dX7_waysFrom_10 fd_7_29 (sk_l hs 0 (by decide)) (sk_k0 hs) rfl (sk_r0_1 hs) ?_
      refine rn_aload_n dX7_waysFrom_13 rfl rfl ?_
      refine rn_iload_n dX7_waysFrom_14 rfl rfl ?_
      refine rn_iconst (v := nI 0) dX7_waysFrom_15 (by decide) ?_
      refine rn_callV0 (st := []) dX7_waysFrom_16 cf_7_231 (c_tt_10 (sk_d3 hs) hdc hc3 hq4 hK (hDK.kept (hJ c hc3 hc4) (hJ q hq3 hq4))) (by omega) (sk_d3 hs).1 (sk_d3 hs).2.1 rfl rfl (Nat.le_of_ble_eq_true rfl) (fun r1 S1 J1 hq => ?_)
      obtain ⟨rfl, rfl, hT1, hF1⟩ := hq
      refine rn_iload_n dX7_waysFrom_19 rfl rfl ?_
      refine rn_aload_n dX7_waysFrom_20 rfl rfl ?_
      refine rn_getR (r := 3) dX7_waysFrom_21 fd_7_29 (sk_l hs 0 (by decide)) (sk_k0 hs) rfl (sk_r0_1 hs) ?_
      refine rn_aload_n dX7_waysFrom_24 rfl rfl ?_
      refine rn_getR (r := 1) dX7_waysFrom_25 fd_7_10 (sk_l hs 0 (by decide)) (sk_k0 hs) rfl (sk_r0_0 hs) ?_
      refine rn_callVq (st := [.int (nI (wyN K D 1))]) dX7_waysFrom_28 cf_7_198 (c_X0_isSameAs (sk_d3 hs) hT1.1 hT1.2.1 (hO0).1.2 (hO0).2.1.2 (sk_d1 hs) (hD.kept ((hF1 1 (by decide) (by decide)).trans (hJ 1 (by decide) (by decide))) ((hF1 2 (by decide) (by decide)).trans (hJ 2 (by decide) (by decide)))).1 (hD.kept ((hF1 1 (by decide) (by decide)).trans (hJ 1 (by decide) (by decide))) ((hF1 2 (by decide) (by decide)).trans (hJ 2 (by decide) (by decide)))).2.1 hOD.1.2 hOD.2.1.2) (by omega) (sk_d3 hs).1 (sk_d3 hs).2.1 rfl rfl (Nat.le_of_ble_eq_true rfl) ?_
      refine rn_top (y := am_b (pb (eqD (TT 1 0 K) D))) (congrArg am_b (pb_congr (eq_X hO0 hOD hT1 (hD.kept ((hF1 1 (by decide) (by decide)).trans (hJ 1 (by decide) (by decide))) ((hF1 2 (by decide) (by decide)).trans (hJ 2 (by decide) (by decide))))))) ?_
      refine rn_if_eqB (tgt := 38) dX7_waysFrom_31 (by decide) (fun c_31 => ?_) (fun c_31 => ?_)
      · refine rn_iconst (v := nI 0) dX7_waysFrom_38 (by decide) ?_
        refine rn_iadd dX7_waysFrom_39 ?_
        refine rn_top (nI_add _ _) ?_
        refine rn_top (y := nI (wyN K D 1 + bN (pb (eqD (TT 1 0 K) D)))) (by rw [c_31]; rfl) ?_
        refine rn_istore_n (ls' := [some (.ref 0), some (.ref c), some (.int (nI (wyN K D 1 + bN (pb (eqD (TT 1 0 K) D))))), some (.int (nI 1))]) dX7_waysFrom_40 rfl (by decide) rfl rfl ?_
        refine rn_aload_n dX7_waysFrom_41 rfl rfl ?_
        refine rn_getR (r := 3) dX7_waysFrom_42 fd_7_29 (sk_l hs 0 (by decide)) (sk_k0 hs) rfl (sk_r0_1 hs) ?_
        refine rn_aload_n dX7_waysFrom_45 rfl rfl ?_
        refine rn_iload_n dX7_waysFrom_46 rfl rfl ?_
        refine rn_iconst (v := nI 1) dX7_waysFrom_47 (by decide) ?_
        refine rn_callV0 (st := []) dX7_waysFrom_48 cf_7_231 (c_tt_11 (sk_d3 hs) hdc hc3 hq4 hK (hDK.kept ((hF1 c hc3 hc4).trans (hJ c hc3 hc4)) ((hF1 q hq3 hq4).trans (hJ q hq3 hq4)))) (by omega) (sk_d3 hs).1 (sk_d3 hs).2.1 rfl rfl (Nat.le_of_ble_eq_true rfl) (fun r1 S1 J2 hq => ?_)
        obtain ⟨rfl, rfl, hT2, hF2⟩ := hq
        refine rn_iload_n dX7_waysFrom_51 rfl rfl ?_
        refine rn_aload_n dX7_waysFrom_52 rfl rfl ?_
        refine rn_getR (r := 3) dX7_waysFrom_53 fd_7_29 (sk_l hs 0 (by decide)) (sk_k0 hs) rfl (sk_r0_1 hs) ?_
        refine rn_aload_n dX7_waysFrom_56 rfl rfl ?_
        refine rn_getR (r := 1) dX7_waysFrom_57 fd_7_10 (sk_l hs 0 (by decide)) (sk_k0 hs) rfl (sk_r0_0 hs) ?_
        refine rn_callVq (st := [.int (nI (wyN K D 1 + bN (pb (eqD (TT 1 0 K) D))))]) dX7_waysFrom_60 cf_7_198 (c_X0_isSameAs (sk_d3 hs) hT2.1 hT2.2.1 (hO1).1.2 (hO1).2.1.2 (sk_d1 hs) (hD.kept (((hF2 1 (by decide) (by decide)).trans (hF1 1 (by decide) (by decide))).trans (hJ 1 (by decide) (by decide))) (((hF2 2 (by decide) (by decide)).trans (hF1 2 (by decide) (by decide))).trans (hJ 2 (by decide) (by decide)))).1 (hD.kept (((hF2 1 (by decide) (by decide)).trans (hF1 1 (by decide) (by decide))).trans (hJ 1 (by decide) (by decide))) (((hF2 2 (by decide) (by decide)).trans (hF1 2 (by decide) (by decide))).trans (hJ 2 (by decide) (by decide)))).2.1 hOD.1.2 hOD.2.1.2) (by omega) (sk_d3 hs).1 (sk_d3 hs).2.1 rfl rfl (Nat.le_of_ble_eq_true rfl) ?_
        refine rn_top (y := am_b (pb (eqD (TT 1 1 K) D))) (congrArg am_b (pb_congr (eq_X hO1 hOD hT2 (hD.kept (((hF2 1 (by decide) (by decide)).trans (hF1 1 (by decide) (by decide))).trans (hJ 1 (by decide) (by decide))) (((hF2 2 (by decide) (by decide)).trans (hF1 2 (by decide) (by decide))).trans (hJ 2 (by decide) (by decide))))))) ?_
        refine rn_if_eqB (tgt := 70) dX7_waysFrom_63 (by decide) (fun c_63 => ?_) (fun c_63 => ?_)
        · refine rn_iconst (v := nI 0) dX7_waysFrom_70 (by decide) ?_
          refine rn_iadd dX7_waysFrom_71 ?_
          refine rn_top (nI_add _ _) ?_
          refine rn_top (y := nI (wyN K D 2)) (by show _ = nI (wyN K D 1 + bN (pb (eqD (TT 1 0 K) D)) + bN (pb (eqD (TT 1 1 K) D))); rw [c_63]; rfl) ?_
          refine rn_istore_n (ls' := [some (.ref 0), some (.ref c), some (.int (nI (wyN K D 2))), some (.int (nI 1))]) dX7_waysFrom_72 rfl (by decide) rfl rfl ?_
          refine rn_iinc (v := nI 2) (ls' := [some (.ref 0), some (.ref c), some (.int (nI (wyN K D 2))), some (.int (nI 2))]) dX7_waysFrom_73 rfl (nI_add _ 1) (by decide) rfl rfl ?_
          refine rn_goto (tgt := 4) dX7_waysFrom_76 (by decide) ?_
          exact L2 J2 (fun b h1 h2 => (hF2 b h1 h2).trans ((hF1 b h1 h2).trans (hJ b h1 h2)))
        · refine rn_iconst (v := nI 1) dX7_waysFrom_66 (by decide) ?_
          refine rn_goto (tgt := 71) dX7_waysFrom_67 (by decide) ?_
          refine rn_iadd dX7_waysFrom_71 ?_
          refine rn_top (nI_add _ _) ?_
          refine rn_top (y := nI (wyN K D 2)) (by show _ = nI (wyN K D 1 + bN (pb (eqD (TT 1 0 K) D)) + bN (pb (eqD (TT 1 1 K) D))); rw [c_63]; rfl) ?_
          refine rn_istore_n (ls' := [some (.ref 0), some (.ref c), some (.int (nI (wyN K D 2))), some (.int (nI 1))]) dX7_waysFrom_72 rfl (by decide) rfl rfl ?_
          refine rn_iinc (v := nI 2) (ls' := [some (.ref 0), some (.ref c), some (.int (nI (wyN K D 2))), some (.int (nI 2))]) dX7_waysFrom_73 rfl (nI_add _ 1) (by decide) rfl rfl ?_
          refine rn_goto (tgt := 4) dX7_waysFrom_76 (by decide) ?_
          exact L2 J2 (fun b h1 h2 => (hF2 b h1 h2).trans ((hF1 b h1 h2).trans (hJ b h1 h2)))
      · refine rn_iconst (v := nI 1) dX7_waysFrom_34 (by decide) ?_
        refine rn_goto (tgt := 39) dX7_waysFrom_35 (by decide) ?_
        refine rn_iadd dX7_waysFrom_39 ?_
        refine rn_top (nI_add _ _) ?_
        refine rn_top (y := nI (wyN K D 1 + bN (pb (eqD (TT 1 0 K) D)))) (by rw [c_31]; rfl) ?_
        refine rn_istore_n (ls' := [some (.ref 0), some (.ref c), some (.int (nI (wyN K D 1 + bN (pb (eqD (TT 1 0 K) D))))), some (.int (nI 1))]) dX7_waysFrom_40 rfl (by decide) rfl rfl ?_
        refine rn_aload_n dX7_waysFrom_41 rfl rfl ?_
        refine rn_getR (r := 3) dX7_waysFrom_42 fd_7_29 (sk_l hs 0 (by decide)) (sk_k0 hs) rfl (sk_r0_1 hs) ?_
        refine rn_aload_n dX7_waysFrom_45 rfl rfl ?_
        refine rn_iload_n dX7_waysFrom_46 rfl rfl ?_
        refine rn_iconst (v := nI 1) dX7_waysFrom_47 (by decide) ?_
        refine rn_callV0 (st := []) dX7_waysFrom_48 cf_7_231 (c_tt_11 (sk_d3 hs) hdc hc3 hq4 hK (hDK.kept ((hF1 c hc3 hc4).trans (hJ c hc3 hc4)) ((hF1 q hq3 hq4).trans (hJ q hq3 hq4)))) (by omega) (sk_d3 hs).1 (sk_d3 hs).2.1 rfl rfl (Nat.le_of_ble_eq_true rfl) (fun r1 S1 J2 hq => ?_)
        obtain ⟨rfl, rfl, hT2, hF2⟩ := hq
        refine rn_iload_n dX7_waysFrom_51 rfl rfl ?_
        refine rn_aload_n dX7_waysFrom_52 rfl rfl ?_
        refine rn_getR (r := 3) dX7_waysFrom_53 fd_7_29 (sk_l hs 0 (by decide)) (sk_k0 hs) rfl (sk_r0_1 hs) ?_
        refine rn_aload_n dX7_waysFrom_56 rfl rfl ?_
        refine rn_getR (r := 1) dX7_waysFrom_57 fd_7_10 (sk_l hs 0 (by decide)) (sk_k0 hs) rfl (sk_r0_0 hs) ?_
        refine rn_callVq (st := [.int (nI (wyN K D 1 + bN (pb (eqD (TT 1 0 K) D))))]) dX7_waysFrom_60 cf_7_198 (c_X0_isSameAs (sk_d3 hs) hT2.1 hT2.2.1 (hO1).1.2 (hO1).2.1.2 (sk_d1 hs) (hD.kept (((hF2 1 (by decide) (by decide)).trans (hF1 1 (by decide) (by decide))).trans (hJ 1 (by decide) (by decide))) (((hF2 2 (by decide) (by decide)).trans (hF1 2 (by decide) (by decide))).trans (hJ 2 (by decide) (by decide)))).1 (hD.kept (((hF2 1 (by decide) (by decide)).trans (hF1 1 (by decide) (by decide))).trans (hJ 1 (by decide) (by decide))) (((hF2 2 (by decide) (by decide)).trans (hF1 2 (by decide) (by decide))).trans (hJ 2 (by decide) (by decide)))).2.1 hOD.1.2 hOD.2.1.2) (by omega) (sk_d3 hs).1 (sk_d3 hs).2.1 rfl rfl (Nat.le_of_ble_eq_true rfl) ?_
        refine rn_top (y := am_b (pb (eqD (TT 1 1 K) D))) (congrArg am_b (pb_congr (eq_X hO1 hOD hT2 (hD.kept (((hF2 1 (by decide) (by decide)).trans (hF1 1 (by decide) (by decide))).trans (hJ 1 (by decide) (by decide))) (((hF2 2 (by decide) (by decide)).trans (hF1 2 (by decide) (by decide))).trans (hJ 2 (by decide) (by decide))))))) ?_
        refine rn_if_eqB (tgt := 70) dX7_waysFrom_63 (by decide) (fun c_63 => ?_) (fun c_63 => ?_)
        · refine rn_iconst (v := nI 0) dX7_waysFrom_70 (by decide) ?_
          refine rn_iadd dX7_waysFrom_71 ?_
          refine rn_top (nI_add _ _) ?_
          refine rn_top (y := nI (wyN K D 2)) (by show _ = nI (wyN K D 1 + bN (pb (eqD (TT 1 0 K) D)) + bN (pb (eqD (TT 1 1 K) D))); rw [c_63]; rfl) ?_
          refine rn_istore_n (ls' := [some (.ref 0), some (.ref c), some (.int (nI (wyN K D 2))), some (.int (nI 1))]) dX7_waysFrom_72 rfl (by decide) rfl rfl ?_
          refine rn_iinc (v := nI 2) (ls' := [some (.ref 0), some (.ref c), some (.int (nI (wyN K D 2))), some (.int (nI 2))]) dX7_waysFrom_73 rfl (nI_add _ 1) (by decide) rfl rfl ?_
          refine rn_goto (tgt := 4) dX7_waysFrom_76 (by decide) ?_
          exact L2 J2 (fun b h1 h2 => (hF2 b h1 h2).trans ((hF1 b h1 h2).trans (hJ b h1 h2)))
        · refine rn_iconst (v := nI 1) dX7_waysFrom_66 (by decide) ?_
          refine rn_goto (tgt := 71) dX7_waysFrom_67 (by decide) ?_
          refine rn_iadd dX7_waysFrom_71 ?_
          refine rn_top (nI_add _ _) ?_
          refine rn_top (y := nI (wyN K D 2)) (by show _ = nI (wyN K D 1 + bN (pb (eqD (TT 1 0 K) D)) + bN (pb (eqD (TT 1 1 K) D))); rw [c_63]; rfl) ?_
          refine rn_istore_n (ls' := [some (.ref 0), some (.ref c), some (.int (nI (wyN K D 2))), some (.int (nI 1))]) dX7_waysFrom_72 rfl (by decide) rfl rfl ?_
          refine rn_iinc (v := nI 2) (ls' := [some (.ref 0), some (.ref c), some (.int (nI (wyN K D 2))), some (.int (nI 2))]) dX7_waysFrom_73 rfl (nI_add _ 1) (by decide) rfl rfl ?_
          refine rn_goto (tgt := 4) dX7_waysFrom_76 (by decide) ?_
          exact L2 J2 (fun b h1 h2 => (hF2 b h1 h2).trans ((hF1 b h1 h2).trans (hJ b h1 h2)))
  have L0 : ∀ J : am_I, (∀ b, b ≠ 3 → b ≠ 4 → J b = I b) → am_Rn 3 Y_X7_waysFrom (0, 0) 4 [some (.ref 0), some (.ref c), some (.int (nI (wyN K D 0))), some (.int (nI 0))] [] S J (fun r S' I' => r = some (.int (nI (wyN K D 4))) ∧ S' = S ∧ ∀ b, b ≠ 3 → b ≠ 4 → I' b = I b) := by
    intro J hJ
    have hO0 : okD (TT 0 0 K) := okD_T0 hK
    have hO1 : okD (TT 0 1 K) := okD_flip hO0
    refine rn_iload_n dX7_waysFrom_4 rfl rfl ?_
    refine rn_iconst (v := nI 4) dX7_waysFrom_5 (by decide) ?_
    refine rn_icmp_geN (tgt := 79) dX7_waysFrom_6 (by decide) (by omega) (by omega) (fun c_6 => ?_) (fun c_6 => ?_)
    · exact absurd c_6 (by decide)
    · refine rn_aload_n dX7_waysFrom_9 rfl rfl ?_
      refine rn_getR (r := 3) dX7_waysFrom_10 fd_7_29 (sk_l hs 0 (by decide)) (sk_k0 hs) rfl (sk_r0_1 hs) ?_
      refine rn_aload_n dX7_waysFrom_13 rfl rfl ?_
      refine rn_iload_n dX7_waysFrom_14 rfl rfl ?_
      refine rn_iconst (v := nI 0) dX7_waysFrom_15 (by decide) ?_
      refine rn_callV0 (st := []) dX7_waysFrom_16 cf_7_231 (c_tt_00 (sk_d3 hs) hdc hc3 hq4 hK (hDK.kept (hJ c hc3 hc4) (hJ q hq3 hq4))) (by omega) (sk_d3 hs).1 (sk_d3 hs).2.1 rfl rfl (Nat.le_of_ble_eq_true rfl) (fun r1 S1 J1 hq => ?_)
      obtain ⟨rfl, rfl, hT1, hF1⟩ := hq
      refine rn_iload_n dX7_waysFrom_19 rfl rfl ?_
      refine rn_aload_n dX7_waysFrom_20 rfl rfl ?_
      refine rn_getR (r := 3) dX7_waysFrom_21 fd_7_29 (sk_l hs 0 (by decide)) (sk_k0 hs) rfl (sk_r0_1 hs) ?_
      refine rn_aload_n dX7_waysFrom_24 rfl rfl ?_
      refine rn_getR (r := 1) dX7_waysFrom_25 fd_7_10 (sk_l hs 0 (by decide)) (sk_k0 hs) rfl (sk_r0_0 hs) ?_
      refine rn_callVq (st := [.int (nI (wyN K D 0))]) dX7_waysFrom_28 cf_7_198 (c_X0_isSameAs (sk_d3 hs) hT1.1 hT1.2.1 (hO0).1.2 (hO0).2.1.2 (sk_d1 hs) (hD.kept ((hF1 1 (by decide) (by decide)).trans (hJ 1 (by decide) (by decide))) ((hF1 2 (by decide) (by decide)).trans (hJ 2 (by decide) (by decide)))).1 (hD.kept ((hF1 1 (by decide) (by decide)).trans (hJ 1 (by decide) (by decide))) ((hF1 2 (by decide) (by decide)).trans (hJ 2 (by decide) (by decide)))).2.1 hOD.1.2 hOD.2.1.2) (by omega) (sk_d3 hs).1 (sk_d3 hs).2.1 rfl rfl (Nat.le_of_ble_eq_true rfl) ?_
      refine rn_top (y := am_b (pb (eqD (TT 0 0 K) D))) (congrArg am_b (pb_congr (eq_X hO0 hOD hT1 (hD.kept ((hF1 1 (by decide) (by decide)).trans (hJ 1 (by decide) (by decide))) ((hF1 2 (by decide) (by decide)).trans (hJ 2 (by decide) (by decide))))))) ?_
      refine rn_if_eqB (tgt := 38) dX7_waysFrom_31 (by decide) (fun c_31 => ?_) (fun c_31 => ?_)
      · refine rn_iconst (v := nI 0) dX7_waysFrom_38 (by decide) ?_
        refine rn_iadd dX7_waysFrom_39 ?_
        refine rn_top (nI_add _ _) ?_
        refine rn_top (y := nI (wyN K D 0 + bN (pb (eqD (TT 0 0 K) D)))) (by rw [c_31]; rfl) ?_
        refine rn_istore_n (ls' := [some (.ref 0), some (.ref c), some (.int (nI (wyN K D 0 + bN (pb (eqD (TT 0 0 K) D))))), some (.int (nI 0))]) dX7_waysFrom_40 rfl (by decide) rfl rfl ?_
        refine rn_aload_n dX7_waysFrom_41 rfl rfl ?_
        refine rn_getR (r := 3) dX7_waysFrom_42 fd_7_29 (sk_l hs 0 (by decide)) (sk_k0 hs) rfl (sk_r0_1 hs) ?_
        refine rn_aload_n dX7_waysFrom_45 rfl rfl ?_
        refine rn_iload_n dX7_waysFrom_46 rfl rfl ?_
        refine rn_iconst (v := nI 1) dX7_waysFrom_47 (by decide) ?_
        refine rn_callV0 (st := []) dX7_waysFrom_48 cf_7_231 (c_tt_01 (sk_d3 hs) hdc hc3 hq4 hK (hDK.kept ((hF1 c hc3 hc4).trans (hJ c hc3 hc4)) ((hF1 q hq3 hq4).trans (hJ q hq3 hq4)))) (by omega) (sk_d3 hs).1 (sk_d3 hs).2.1 rfl rfl (Nat.le_of_ble_eq_true rfl) (fun r1 S1 J2 hq => ?_)
        obtain ⟨rfl, rfl, hT2, hF2⟩ := hq
        refine rn_iload_n dX7_waysFrom_51 rfl rfl ?_
        refine rn_aload_n dX7_waysFrom_52 rfl rfl ?_
        refine rn_getR (r := 3) dX7_waysFrom_53 fd_7_29 (sk_l hs 0 (by decide)) (sk_k0 hs) rfl (sk_r0_1 hs) ?_
        refine rn_aload_n dX7_waysFrom_56 rfl rfl ?_
        refine rn_getR (r := 1) dX7_waysFrom_57 fd_7_10 (sk_l hs 0 (by decide)) (sk_k0 hs) rfl (sk_r0_0 hs) ?_
        refine rn_callVq (st := [.int (nI (wyN K D 0 + bN (pb (eqD (TT 0 0 K) D))))]) dX7_waysFrom_60 cf_7_198 (c_X0_isSameAs (sk_d3 hs) hT2.1 hT2.2.1 (hO1).1.2 (hO1).2.1.2 (sk_d1 hs) (hD.kept (((hF2 1 (by decide) (by decide)).trans (hF1 1 (by decide) (by decide))).trans (hJ 1 (by decide) (by decide))) (((hF2 2 (by decide) (by decide)).trans (hF1 2 (by decide) (by decide))).trans (hJ 2 (by decide) (by decide)))).1 (hD.kept (((hF2 1 (by decide) (by decide)).trans (hF1 1 (by decide) (by decide))).trans (hJ 1 (by decide) (by decide))) (((hF2 2 (by decide) (by decide)).trans (hF1 2 (by decide) (by decide))).trans (hJ 2 (by decide) (by decide)))).2.1 hOD.1.2 hOD.2.1.2) (by omega) (sk_d3 hs).1 (sk_d3 hs).2.1 rfl rfl (Nat.le_of_ble_eq_true rfl) ?_
        refine rn_top (y := am_b (pb (eqD (TT 0 1 K) D))) (congrArg am_b (pb_congr (eq_X hO1 hOD hT2 (hD.kept (((hF2 1 (by decide) (by decide)).trans (hF1 1 (by decide) (by decide))).trans (hJ 1 (by decide) (by decide))) (((hF2 2 (by decide) (by decide)).trans (hF1 2 (by decide) (by decide))).trans (hJ 2 (by decide) (by decide))))))) ?_
        refine rn_if_eqB (tgt := 70) dX7_waysFrom_63 (by decide) (fun c_63 => ?_) (fun c_63 => ?_)
        · refine rn_iconst (v := nI 0) dX7_waysFrom_70 (by decide) ?_
          refine rn_iadd dX7_waysFrom_71 ?_
          refine rn_top (nI_add _ _) ?_
          refine rn_top (y := nI (wyN K D 1)) (by show _ = nI (wyN K D 0 + bN (pb (eqD (TT 0 0 K) D)) + bN (pb (eqD (TT 0 1 K) D))); rw [c_63]; rfl) ?_
          refine rn_istore_n (ls' := [some (.ref 0), some (.ref c), some (.int (nI (wyN K D 1))), some (.int (nI 0))]) dX7_waysFrom_72 rfl (by decide) rfl rfl ?_
          refine rn_iinc (v := nI 1) (ls' := [some (.ref 0), some (.ref c), some (.int (nI (wyN K D 1))), some (.int (nI 1))]) dX7_waysFrom_73 rfl (nI_add _ 1) (by decide) rfl rfl ?_
          refine rn_goto (tgt := 4) dX7_waysFrom_76 (by decide) ?_
          exact L1 J2 (fun b h1 h2 => (hF2 b h1 h2).trans ((hF1 b h1 h2).trans (hJ b h1 h2)))
        · refine rn_iconst (v := nI 1) dX7_waysFrom_66 (by decide) ?_
          refine rn_goto (tgt := 71) dX7_waysFrom_67 (by decide) ?_
          refine rn_iadd dX7_waysFrom_71 ?_
          refine rn_top (nI_add _ _) ?_
          refine rn_top (y := nI (wyN K D 1)) (by show _ = nI (wyN K D 0 + bN (pb (eqD (TT 0 0 K) D)) + bN (pb (eqD (TT 0 1 K) D))); rw [c_63]; rfl) ?_
          refine rn_istore_n (ls' := [some (.ref 0), some (.ref c), some (.int (nI (wyN K D 1))), some (.int (nI 0))]) dX7_waysFrom_72 rfl (by decide) rfl rfl ?_
          refine rn_iinc (v := nI 1) (ls' := [some (.ref 0), some (.ref c), some (.int (nI (wyN K D 1))), some (.int (nI 1))]) dX7_waysFrom_73 rfl (nI_add _ 1) (by decide) rfl rfl ?_
          refine rn_goto (tgt := 4) dX7_waysFrom_76 (by decide) ?_
          exact L1 J2 (fun b h1 h2 => (hF2 b h1 h2).trans ((hF1 b h1 h2).trans (hJ b h1 h2)))
      · refine rn_iconst (v := nI 1) dX7_waysFrom_34 (by decide) ?_
        refine rn_goto (tgt := 39) dX7_waysFrom_35 (by decide) ?_
        refine rn_iadd dX7_waysFrom_39 ?_
        refine rn_top (nI_add _ _) ?_
        refine rn_top (y := nI (wyN K D 0 + bN (pb (eqD (TT 0 0 K) D)))) (by rw [c_31]; rfl) ?_
        refine rn_istore_n (ls' := [some (.ref 0), some (.ref c), some (.int (nI (wyN K D 0 + bN (pb (eqD (TT 0 0 K) D))))), some (.int (nI 0))]) dX7_waysFrom_40 rfl (by decide) rfl rfl ?_
        refine rn_aload_n dX7_waysFrom_41 rfl rfl ?_
        refine rn_getR (r := 3) dX7_waysFrom_42 fd_7_29 (sk_l hs 0 (by decide)) (sk_k0 hs) rfl (sk_r0_1 hs) ?_
        refine rn_aload_n dX7_waysFrom_45 rfl rfl ?_
        refine rn_iload_n dX7_waysFrom_46 rfl rfl ?_
        refine rn_iconst (v := nI 1) dX7_waysFrom_47 (by decide) ?_
        refine rn_callV0 (st := []) dX7_waysFrom_48 cf_7_231 (c_tt_01 (sk_d3 hs) hdc hc3 hq4 hK (hDK.kept ((hF1 c hc3 hc4).trans (hJ c hc3 hc4)) ((hF1 q hq3 hq4).trans (hJ q hq3 hq4)))) (by omega) (sk_d3 hs).1 (sk_d3 hs).2.1 rfl rfl (Nat.le_of_ble_eq_true rfl) (fun r1 S1 J2 hq => ?_)
        obtain ⟨rfl, rfl, hT2, hF2⟩ := hq
        refine rn_iload_n dX7_waysFrom_51 rfl rfl ?_
        refine rn_aload_n dX7_waysFrom_52 rfl rfl ?_
        refine rn_getR (r := 3) dX7_waysFrom_53 fd_7_29 (sk_l hs 0 (by decide)) (sk_k0 hs) rfl (sk_r0_1 hs) ?_
        refine rn_aload_n dX7_waysFrom_56 rfl rfl ?_
        refine rn_getR (r := 1) dX7_waysFrom_57 fd_7_10 (sk_l hs 0 (by decide)) (sk_k0 hs) rfl (sk_r0_0 hs) ?_
        refine rn_callVq (st := [.int (nI (wyN K D 0 + bN (pb (eqD (TT 0 0 K) D))))]) dX7_waysFrom_60 cf_7_198 (c_X0_isSameAs (sk_d3 hs) hT2.1 hT2.2.1 (hO1).1.2 (hO1).2.1.2 (sk_d1 hs) (hD.kept (((hF2 1 (by decide) (by decide)).trans (hF1 1 (by decide) (by decide))).trans (hJ 1 (by decide) (by decide))) (((hF2 2 (by decide) (by decide)).trans (hF1 2 (by decide) (by decide))).trans (hJ 2 (by decide) (by decide)))).1 (hD.kept (((hF2 1 (by decide) (by decide)).trans (hF1 1 (by decide) (by decide))).trans (hJ 1 (by decide) (by decide))) (((hF2 2 (by decide) (by decide)).trans (hF1 2 (by decide) (by decide))).trans (hJ 2 (by decide) (by decide)))).2.1 hOD.1.2 hOD.2.1.2) (by omega) (sk_d3 hs).1 (sk_d3 hs).2.1 rfl rfl (Nat.le_of_ble_eq_true rfl) ?_
        refine rn_top (y := am_b (pb (eqD (TT 0 1 K) D))) (congrArg am_b (pb_congr (eq_X hO1 hOD hT2 (hD.kept (((hF2 1 (by decide) (by decide)).trans (hF1 1 (by decide) (by decide))).trans (hJ 1 (by decide) (by decide))) (((hF2 2 (by decide) (by decide)).trans (hF1 2 (by decide) (by decide))).trans (hJ 2 (by decide) (by decide))))))) ?_
        refine rn_if_eqB (tgt := 70) dX7_waysFrom_63 (by decide) (fun c_63 => ?_) (fun c_63 => ?_)
        · refine rn_iconst (v := nI 0) dX7_waysFrom_70 (by decide) ?_
          refine rn_iadd dX7_waysFrom_71 ?_
          refine rn_top (nI_add _ _) ?_
          refine rn_top (y := nI (wyN K D 1)) (by show _ = nI (wyN K D 0 + bN (pb (eqD (TT 0 0 K) D)) + bN (pb (eqD (TT 0 1 K) D))); rw [c_63]; rfl) ?_
          refine rn_istore_n (ls' := [some (.ref 0), some (.ref c), some (.int (nI (wyN K D 1))), some (.int (nI 0))]) dX7_waysFrom_72 rfl (by decide) rfl rfl ?_
          refine rn_iinc (v := nI 1) (ls' := [some (.ref 0), some (.ref c), some (.int (nI (wyN K D 1))), some (.int (nI 1))]) dX7_waysFrom_73 rfl (nI_add _ 1) (by decide) rfl rfl ?_
          refine rn_goto (tgt := 4) dX7_waysFrom_76 (by decide) ?_
          exact L1 J2 (fun b h1 h2 => (hF2 b h1 h2).trans ((hF1 b h1 h2).trans (hJ b h1 h2)))
        · refine rn_iconst (v := nI 1) dX7_waysFrom_66 (by decide) ?_
          refine rn_goto (tgt := 71) dX7_waysFrom_67 (by decide) ?_
          refine rn_iadd dX7_waysFrom_71 ?_
          refine rn_top (nI_add _ _) ?_
          refine rn_top (y := nI (wyN K D 1)) (by show _ = nI (wyN K D 0 + bN (pb (eqD (TT 0 0 K) D)) + bN (pb (eqD (TT 0 1 K) D))); rw [c_63]; rfl) ?_
          refine rn_istore_n (ls' := [some (.ref 0), some (.ref c), some (.int (nI (wyN K D 1))), some (.int (nI 0))]) dX7_waysFrom_72 rfl (by decide) rfl rfl ?_
          refine rn_iinc (v := nI 1) (ls' := [some (.ref 0), some (.ref c), some (.int (nI (wyN K D 1))), some (.int (nI 1))]) dX7_waysFrom_73 rfl (nI_add _ 1) (by decide) rfl rfl ?_
          refine rn_goto (tgt := 4) dX7_waysFrom_76 (by decide) ?_
          exact L1 J2 (fun b h1 h2 => (hF2 b h1 h2).trans ((hF1 b h1 h2).trans (hJ b h1 h2)))
  refine am_mt ⟨by decide +kernel, rfl⟩ (Nat.le_of_ble_eq_true rfl) rfl ?_
  refine rn_iconst (v := nI 0) dX7_waysFrom_0 (by decide) ?_
  refine rn_istore_n (ls' := [some (.ref 0), some (.ref c), some (.int (nI 0)), none]) dX7_waysFrom_1 rfl (by decide) rfl rfl ?_
  refine rn_iconst (v := nI 0) dX7_waysFrom_2 (by decide) ?_
  refine rn_istore_n (ls' := [some (.ref 0), some (.ref c), some (.int (nI 0)), some (.int (nI 0))]) dX7_waysFrom_3 rfl (by decide) rfl rfl ?_
  exact L0 I (fun _ _ _ => rfl)
set_option maxHeartbeats 1000000 in
set_option maxRecDepth 100000 in
theorem c_X8_ways {S : am_S} (hs : sk S) {I : am_I} {g : Nat} {K D : Dw} (hg : g < 18) (hOK : okD K) (hOD : okD D) (hgK : grD I g K) (hD : grD I 0 D) : am_Mt 2 Y_X8_ways (0, 0) [.ref 44, .int (nI g)] S I (fun r S' I' => r = some (.int (nI (wyN D K 4))) ∧ S' = S ∧ GF I I') := by
  have hgn : ¬ (g = 18 ∨ g = 19) := by omega
  have hl4 := wyN_le D K 4
  have L4 : ∀ J : am_I, GF I J → am_Rn 2 Y_X8_ways (0, 0) 11 [some (.ref 44), some (.int (nI g)), some (.int (nI (wyN D K 4))), some (.int (nI 4))] [] S J (fun r S' I' => r = some (.int (nI (wyN D K 4))) ∧ S' = S ∧ GF I I') := by
    intro J hG
    refine rn_iload_n dX8_ways_11 rfl rfl ?_
    refine rn_iconst (v := nI 4) dX8_ways_12 (by decide) ?_
    refine rn_icmp_geN (tgt := 76) dX8_ways_13 (by decide) (by omega) (by omega) (fun c_13 => ?_) (fun c_13 => ?_)
    · refine rn_iload_n dX8_ways_76 rfl rfl ?_
      refine rn_ireturn dX8_ways_77 rfl (vp_nar_int _) ?_
      exact ⟨rfl, rfl, hG⟩
    · exact absurd c_13 (by decide)
  have L3 : ∀ J : am_I, GF I J → grD J 18 (TT 3 0 D) → am_Rn 2 Y_X8_ways (0, 0) 11 [some (.ref 44), some (.int (nI g)), some (.int (nI (wyN D K 3))), some (.int (nI 3))] [] S J (fun r S' I' => r = some (.int (nI (wyN D K 4))) ∧ S' = S ∧ GF I I') := by
    intro J hG hH
    have hO0 : okD (TT 3 0 D) := okD_T3 hOD
    have hO1 : okD (oFlip (TT 3 0 D)) := okD_flip hO0
    refine rn_iload_n dX8_ways_11 rfl rfl ?_
    refine rn_iconst (v := nI 4) dX8_ways_12 (by decide) ?_
    refine rn_icmp_geN (tgt := 76) dX8_ways_13 (by decide) (by omega) (by omega) (fun c_13 => ?_) (fun c_13 => ?_)
    · exact absurd c_13 (by decide)
    · refine rn_iload_n dX8_ways_16 rfl rfl ?_
      refine rn_aload_n dX8_ways_17 rfl rfl ?_
      refine rn_bipush (v := nI 18) dX8_ways_18 (by decide) ?_
      refine rn_iload_n dX8_ways_20 rfl rfl ?_
      refine rn_callVq (st := [.int (nI (wyN D K 3))]) dX8_ways_21 cf_8_233 (c_X8_isSame hs (f := 18) (g := g) (by decide) (by omega) hH.1 hH.2.1 (hgK.kept hG hgn).1 (hgK.kept hG hgn).2.1 hO0.1.2 hO0.2.1.2 hOK.1.2 hOK.2.1.2) (by omega) (sk_l hs 44 (by decide)) (sk_k44 hs) rfl rfl (Nat.le_of_ble_eq_true rfl) ?_
      refine rn_top (y := am_b (pb (eqD (TT 3 0 D) K))) (congrArg am_b (pb_congr (eq_M hO0 hOK hH (hgK.kept hG hgn)))) ?_
      refine rn_if_eqB (tgt := 31) dX8_ways_24 (by decide) (fun c_24 => ?_) (fun c_24 => ?_)
      · refine rn_iconst (v := nI 0) dX8_ways_31 (by decide) ?_
        refine rn_iadd dX8_ways_32 ?_
        refine rn_top (nI_add _ _) ?_
        refine rn_top (y := nI (wyN D K 3 + bN (pb (eqD (TT 3 0 D) K)))) (by rw [c_24]; rfl) ?_
        refine rn_istore_n (ls' := [some (.ref 44), some (.int (nI g)), some (.int (nI (wyN D K 3 + bN (pb (eqD (TT 3 0 D) K))))), some (.int (nI 3))]) dX8_ways_33 rfl (by decide) rfl rfl ?_
        refine rn_aload_n dX8_ways_34 rfl rfl ?_
        refine rn_bipush (v := nI 18) dX8_ways_35 (by decide) ?_
        refine rn_callV0 (st := []) dX8_ways_37 cf_8_193 (m_flipD hs (g := 18) (by decide) hO0 hH) (by omega) (sk_l hs 44 (by decide)) (sk_k44 hs) rfl rfl (Nat.le_of_ble_eq_true rfl) (fun r1 S1 J1 hq => ?_)
        obtain ⟨rfl, rfl, hH1, hF1⟩ := hq
        refine rn_iload_n dX8_ways_40 rfl rfl ?_
        refine rn_aload_n dX8_ways_41 rfl rfl ?_
        refine rn_bipush (v := nI 18) dX8_ways_42 (by decide) ?_
        refine rn_iload_n dX8_ways_44 rfl rfl ?_
        refine rn_callVq (st := [.int (nI (wyN D K 3 + bN (pb (eqD (TT 3 0 D) K))))]) dX8_ways_45 cf_8_233 (c_X8_isSame hs (f := 18) (g := g) (by decide) (by omega) hH1.1 hH1.2.1 ((hgK.kept hG hgn).kept hF1 hgn).1 ((hgK.kept hG hgn).kept hF1 hgn).2.1 hO1.1.2 hO1.2.1.2 hOK.1.2 hOK.2.1.2) (by omega) (sk_l hs 44 (by decide)) (sk_k44 hs) rfl rfl (Nat.le_of_ble_eq_true rfl) ?_
        refine rn_top (y := am_b (pb (eqD (TT 3 1 D) K))) (congrArg am_b (pb_congr (eq_M (D := TT 3 1 D) hO1 hOK hH1 ((hgK.kept hG hgn).kept hF1 hgn)))) ?_
        refine rn_if_eqB (tgt := 55) dX8_ways_48 (by decide) (fun c_48 => ?_) (fun c_48 => ?_)
        · refine rn_iconst (v := nI 0) dX8_ways_55 (by decide) ?_
          refine rn_iadd dX8_ways_56 ?_
          refine rn_top (nI_add _ _) ?_
          refine rn_top (y := nI (wyN D K 4)) (by show _ = nI (wyN D K 3 + bN (pb (eqD (TT 3 0 D) K)) + bN (pb (eqD (TT 3 1 D) K))); rw [c_48]; rfl) ?_
          refine rn_istore_n (ls' := [some (.ref 44), some (.int (nI g)), some (.int (nI (wyN D K 4))), some (.int (nI 3))]) dX8_ways_57 rfl (by decide) rfl rfl ?_
          refine rn_aload_n dX8_ways_58 rfl rfl ?_
          refine rn_bipush (v := nI 18) dX8_ways_59 (by decide) ?_
          refine rn_callV0 (st := []) dX8_ways_61 cf_8_193 (m_flipD hs (g := 18) (by decide) hO1 hH1) (by omega) (sk_l hs 44 (by decide)) (sk_k44 hs) rfl rfl (Nat.le_of_ble_eq_true rfl) (fun r1 S1 J2 hq => ?_)
          obtain ⟨rfl, rfl, hH2, hF2⟩ := hq
          have hH3 := gr_ff hH2
          refine rn_aload_n dX8_ways_64 rfl rfl ?_
          refine rn_bipush (v := nI 18) dX8_ways_65 (by decide) ?_
          refine rn_callV0 (st := []) dX8_ways_67 cf_8_190 (m_turnD hs (g := 18) (by decide) hO0 hH3) (by omega) (sk_l hs 44 (by decide)) (sk_k44 hs) rfl rfl (Nat.le_of_ble_eq_true rfl) (fun r1 S1 J3 hq => ?_)
          obtain ⟨rfl, rfl, hH4, hF3⟩ := hq
          refine rn_iinc (v := nI 4) (ls' := [some (.ref 44), some (.int (nI g)), some (.int (nI (wyN D K 4))), some (.int (nI 4))]) dX8_ways_70 rfl (nI_add _ 1) (by decide) rfl rfl ?_
          refine rn_goto (tgt := 11) dX8_ways_73 (by decide) ?_
          exact L4 J3 (((hG.trans hF1).trans hF2).trans hF3) 
        · refine rn_iconst (v := nI 1) dX8_ways_51 (by decide) ?_
          refine rn_goto (tgt := 56) dX8_ways_52 (by decide) ?_
          refine rn_iadd dX8_ways_56 ?_
          refine rn_top (nI_add _ _) ?_
          refine rn_top (y := nI (wyN D K 4)) (by show _ = nI (wyN D K 3 + bN (pb (eqD (TT 3 0 D) K)) + bN (pb (eqD (TT 3 1 D) K))); rw [c_48]; rfl) ?_
          refine rn_istore_n (ls' := [some (.ref 44), some (.int (nI g)), some (.int (nI (wyN D K 4))), some (.int (nI 3))]) dX8_ways_57 rfl (by decide) rfl rfl ?_
          refine rn_aload_n dX8_ways_58 rfl rfl ?_
          refine rn_bipush (v := nI 18) dX8_ways_59 (by decide) ?_
          refine rn_callV0 (st := []) dX8_ways_61 cf_8_193 (m_flipD hs (g := 18) (by decide) hO1 hH1) (by omega) (sk_l hs 44 (by decide)) (sk_k44 hs) rfl rfl (Nat.le_of_ble_eq_true rfl) (fun r1 S1 J2 hq => ?_)
          obtain ⟨rfl, rfl, hH2, hF2⟩ := hq
          have hH3 := gr_ff hH2
          refine rn_aload_n dX8_ways_64 rfl rfl ?_
          refine rn_bipush (v := nI 18) dX8_ways_65 (by decide) ?_
          refine rn_callV0 (st := []) dX8_ways_67 cf_8_190 (m_turnD hs (g := 18) (by decide) hO0 hH3) (by omega) (sk_l hs 44 (by decide)) (sk_k44 hs) rfl rfl (Nat.le_of_ble_eq_true rfl) (fun r1 S1 J3 hq => ?_)
          obtain ⟨rfl, rfl, hH4, hF3⟩ := hq
          refine rn_iinc (v := nI 4) (ls' := [some (.ref 44), some (.int (nI g)), some (.int (nI (wyN D K 4))), some (.int (nI 4))]) dX8_ways_70 rfl (nI_add _ 1) (by decide) rfl rfl ?_
          refine rn_goto (tgt := 11) dX8_ways_73 (by decide) ?_
          exact L4 J3 (((hG.trans hF1).trans hF2).trans hF3) 
      · refine rn_iconst (v := nI 1) dX8_ways_27 (by decide) ?_
        refine rn_goto (tgt := 32) dX8_ways_28 (by decide) ?_
        refine rn_iadd dX8_ways_32 ?_
        refine rn_top (nI_add _ _) ?_
        refine rn_top (y := nI (wyN D K 3 + bN (pb (eqD (TT 3 0 D) K)))) (by rw [c_24]; rfl) ?_
        refine rn_istore_n (ls' := [some (.ref 44), some (.int (nI g)), some (.int (nI (wyN D K 3 + bN (pb (eqD (TT 3 0 D) K))))), some (.int (nI 3))]) dX8_ways_33 rfl (by decide) rfl rfl ?_
        refine rn_aload_n dX8_ways_34 rfl rfl ?_
        refine rn_bipush (v := nI 18) dX8_ways_35 (by decide) ?_
        refine rn_callV0 (st := []) dX8_ways_37 cf_8_193 (m_flipD hs (g := 18) (by decide) hO0 hH) (by omega) (sk_l hs 44 (by decide)) (sk_k44 hs) rfl rfl (Nat.le_of_ble_eq_true rfl) (fun r1 S1 J1 hq => ?_)
        obtain ⟨rfl, rfl, hH1, hF1⟩ := hq
        refine rn_iload_n dX8_ways_40 rfl rfl ?_
        refine rn_aload_n dX8_ways_41 rfl rfl ?_
        refine rn_bipush (v := nI 18) dX8_ways_42 (by decide) ?_
        refine rn_iload_n dX8_ways_44 rfl rfl ?_
        refine rn_callVq (st := [.int (nI (wyN D K 3 + bN (pb (eqD (TT 3 0 D) K))))]) dX8_ways_45 cf_8_233 (c_X8_isSame hs (f := 18) (g := g) (by decide) (by omega) hH1.1 hH1.2.1 ((hgK.kept hG hgn).kept hF1 hgn).1 ((hgK.kept hG hgn).kept hF1 hgn).2.1 hO1.1.2 hO1.2.1.2 hOK.1.2 hOK.2.1.2) (by omega) (sk_l hs 44 (by decide)) (sk_k44 hs) rfl rfl (Nat.le_of_ble_eq_true rfl) ?_
        refine rn_top (y := am_b (pb (eqD (TT 3 1 D) K))) (congrArg am_b (pb_congr (eq_M (D := TT 3 1 D) hO1 hOK hH1 ((hgK.kept hG hgn).kept hF1 hgn)))) ?_
        refine rn_if_eqB (tgt := 55) dX8_ways_48 (by decide) (fun c_48 => ?_) (fun c_48 => ?_)
        · refine rn_iconst (v := nI 0) dX8_ways_55 (by decide) ?_
          refine rn_iadd dX8_ways_56 ?_
          refine rn_top (nI_add _ _) ?_
          refine rn_top (y := nI (wyN D K 4)) (by show _ = nI (wyN D K 3 + bN (pb (eqD (TT 3 0 D) K)) + bN (pb (eqD (TT 3 1 D) K))); rw [c_48]; rfl) ?_
          refine rn_istore_n (ls' := [some (.ref 44), some (.int (nI g)), some (.int (nI (wyN D K 4))), some (.int (nI 3))]) dX8_ways_57 rfl (by decide) rfl rfl ?_
          refine rn_aload_n dX8_ways_58 rfl rfl ?_
          refine rn_bipush (v := nI 18) dX8_ways_59 (by decide) ?_
          refine rn_callV0 (st := []) dX8_ways_61 cf_8_193 (m_flipD hs (g := 18) (by decide) hO1 hH1) (by omega) (sk_l hs 44 (by decide)) (sk_k44 hs) rfl rfl (Nat.le_of_ble_eq_true rfl) (fun r1 S1 J2 hq => ?_)
          obtain ⟨rfl, rfl, hH2, hF2⟩ := hq
          have hH3 := gr_ff hH2
          refine rn_aload_n dX8_ways_64 rfl rfl ?_
          refine rn_bipush (v := nI 18) dX8_ways_65 (by decide) ?_
          refine rn_callV0 (st := []) dX8_ways_67 cf_8_190 (m_turnD hs (g := 18) (by decide) hO0 hH3) (by omega) (sk_l hs 44 (by decide)) (sk_k44 hs) rfl rfl (Nat.le_of_ble_eq_true rfl) (fun r1 S1 J3 hq => ?_)
          obtain ⟨rfl, rfl, hH4, hF3⟩ := hq
          refine rn_iinc (v := nI 4) (ls' := [some (.ref 44), some (.int (nI g)), some (.int (nI (wyN D K 4))), some (.int (nI 4))]) dX8_ways_70 rfl (nI_add _ 1) (by decide) rfl rfl ?_
          refine rn_goto (tgt := 11) dX8_ways_73 (by decide) ?_
          exact L4 J3 (((hG.trans hF1).trans hF2).trans hF3) 
        · refine rn_iconst (v := nI 1) dX8_ways_51 (by decide) ?_
          refine rn_goto (tgt := 56) dX8_ways_52 (by decide) ?_
          refine rn_iadd dX8_ways_56 ?_
          refine rn_top (nI_add _ _) ?_
          refine rn_top (y := nI (wyN D K 4)) (by show _ = nI (wyN D K 3 + bN (pb (eqD (TT 3 0 D) K)) + bN (pb (eqD (TT 3 1 D) K))); rw [c_48]; rfl) ?_
          refine rn_istore_n (ls' := [some (.ref 44), some (.int (nI g)), some (.int (nI (wyN D K 4))), some (.int (nI 3))]) dX8_ways_57 rfl (by decide) rfl rfl ?_
          refine rn_aload_n dX8_ways_58 rfl rfl ?_
          refine rn_bipush (v := nI 18) dX8_ways_59 (by decide) ?_
          refine rn_callV0 (st := []) dX8_ways_61 cf_8_193 (m_flipD hs (g := 18) (by decide) hO1 hH1) (by omega) (sk_l hs 44 (by decide)) (sk_k44 hs) rfl rfl (Nat.le_of_ble_eq_true rfl) (fun r1 S1 J2 hq => ?_)
          obtain ⟨rfl, rfl, hH2, hF2⟩ := hq
          have hH3 := gr_ff hH2
          refine rn_aload_n dX8_ways_64 rfl rfl ?_
          refine rn_bipush (v := nI 18) dX8_ways_65 (by decide) ?_
          refine rn_callV0 (st := []) dX8_ways_67 cf_8_190 (m_turnD hs (g := 18) (by decide) hO0 hH3) (by omega) (sk_l hs 44 (by decide)) (sk_k44 hs) rfl rfl (Nat.le_of_ble_eq_true rfl) (fun r1 S1 J3 hq => ?_)
          obtain ⟨rfl, rfl, hH4, hF3⟩ := hq
          refine rn_iinc (v := nI 4) (ls' := [some (.ref 44), some (.int (nI g)), some (.int (nI (wyN D K 4))), some (.int (nI 4))]) dX8_ways_70 rfl (nI_add _ 1) (by decide) rfl rfl ?_
          refine rn_goto (tgt := 11) dX8_ways_73 (by decide) ?_
          exact L4 J3 (((hG.trans hF1).trans hF2).trans hF3) 
  have L2 : ∀ J : am_I, GF I J → grD J 18 (TT 2 0 D) → am_Rn 2 Y_X8_ways (0, 0) 11 [some (.ref 44), some (.int (nI g)), some (.int (nI (wyN D K 2))), some (.int (nI 2))] [] S J (fun r S' I' => r = some (.int (nI (wyN D K 4))) ∧ S' = S ∧ GF I I') := by
    intro J hG hH
    have hO0 : okD (TT 2 0 D) := okD_T2 hOD
    have hO1 : okD (oFlip (TT 2 0 D)) := okD_flip hO0
    refine rn_iload_n dX8_ways_11 rfl rfl ?_
    refine rn_iconst (v := nI 4) dX8_ways_12 (by decide) ?_
    refine rn_icmp_geN (tgt := 76) dX8_ways_13 (by decide) (by omega) (by omega) (fun c_13 => ?_) (fun c_13 => ?_)
    · exact absurd c_13 (by decide)
    · refine rn_iload_n dX8_ways_16 rfl rfl ?_
      refine rn_aload_n dX8_ways_17 rfl rfl ?_
      refine rn_bipush (v := nI 18) dX8_ways_18 (by decide) ?_
      refine rn_iload_n dX8_ways_20 rfl rfl ?_
      refine rn_callVq (st := [.int (nI (wyN D K 2))]) dX8_ways_21 cf_8_233 (c_X8_isSame hs (f := 18) (g := g) (by decide) (by omega) hH.1 hH.2.1 (hgK.kept hG hgn).1 (hgK.kept hG hgn).2.1 hO0.1.2 hO0.2.1.2 hOK.1.2 hOK.2.1.2) (by omega) (sk_l hs 44 (by decide)) (sk_k44 hs) rfl rfl (Nat.le_of_ble_eq_true rfl) ?_
      refine rn_top (y := am_b (pb (eqD (TT 2 0 D) K))) (congrArg am_b (pb_congr (eq_M hO0 hOK hH (hgK.kept hG hgn)))) ?_
      refine rn_if_eqB (tgt := 31) dX8_ways_24 (by decide) (fun c_24 => ?_) (fun c_24 => ?_)
      · refine rn_iconst (v := nI 0) dX8_ways_31 (by decide) ?_
        refine rn_iadd dX8_ways_32 ?_
        refine rn_top (nI_add _ _) ?_
        refine rn_top (y := nI (wyN D K 2 + bN (pb (eqD (TT 2 0 D) K)))) (by rw [c_24]; rfl) ?_
        refine rn_istore_n (ls' := [some (.ref 44), some (.int (nI g)), some (.int (nI (wyN D K 2 + bN (pb (eqD (TT 2 0 D) K))))), some (.int (nI 2))]) dX8_ways_33 rfl (by decide) rfl rfl ?_
        refine rn_aload_n dX8_ways_34 rfl rfl ?_
        refine rn_bipush (v := nI 18) dX8_ways_35 (by decide) ?_
        refine rn_callV0 (st := []) dX8_ways_37 cf_8_193 (m_flipD hs (g := 18) (by decide) hO0 hH) (by omega) (sk_l hs 44 (by decide)) (sk_k44 hs) rfl rfl (Nat.le_of_ble_eq_true rfl) (fun r1 S1 J1 hq => ?_)
        obtain ⟨rfl, rfl, hH1, hF1⟩ := hq
        refine rn_iload_n dX8_ways_40 rfl rfl ?_
        refine rn_aload_n dX8_ways_41 rfl rfl ?_
        refine rn_bipush (v := nI 18) dX8_ways_42 (by decide) ?_
        refine rn_iload_n dX8_ways_44 rfl rfl ?_
        refine rn_callVq (st := [.int (nI (wyN D K 2 + bN (pb (eqD (TT 2 0 D) K))))]) dX8_ways_45 cf_8_233 (c_X8_isSame hs (f := 18) (g := g) (by decide) (by omega) hH1.1 hH1.2.1 ((hgK.kept hG hgn).kept hF1 hgn).1 ((hgK.kept hG hgn).kept hF1 hgn).2.1 hO1.1.2 hO1.2.1.2 hOK.1.2 hOK.2.1.2) (by omega) (sk_l hs 44 (by decide)) (sk_k44 hs) rfl rfl (Nat.le_of_ble_eq_true rfl) ?_
        refine rn_top (y := am_b (pb (eqD (TT 2 1 D) K))) (congrArg am_b (pb_congr (eq_M (D := TT 2 1 D) hO1 hOK hH1 ((hgK.kept hG hgn).kept hF1 hgn)))) ?_
        refine rn_if_eqB (tgt := 55) dX8_ways_48 (by decide) (fun c_48 => ?_) (fun c_48 => ?_)
        · refine rn_iconst (v := nI 0) dX8_ways_55 (by decide) ?_
          refine rn_iadd dX8_ways_56 ?_
          refine rn_top (nI_add _ _) ?_
          refine rn_top (y := nI (wyN D K 3)) (by show _ = nI (wyN D K 2 + bN (pb (eqD (TT 2 0 D) K)) + bN (pb (eqD (TT 2 1 D) K))); rw [c_48]; rfl) ?_
          refine rn_istore_n (ls' := [some (.ref 44), some (.int (nI g)), some (.int (nI (wyN D K 3))), some (.int (nI 2))]) dX8_ways_57 rfl (by decide) rfl rfl ?_
          refine rn_aload_n dX8_ways_58 rfl rfl ?_
          refine rn_bipush (v := nI 18) dX8_ways_59 (by decide) ?_
          refine rn_callV0 (st := []) dX8_ways_61 cf_8_193 (m_flipD hs (g := 18) (by decide) hO1 hH1) (by omega) (sk_l hs 44 (by decide)) (sk_k44 hs) rfl rfl (Nat.le_of_ble_eq_true rfl) (fun r1 S1 J2 hq => ?_)
          obtain ⟨rfl, rfl, hH2, hF2⟩ := hq
          have hH3 := gr_ff hH2
          refine rn_aload_n dX8_ways_64 rfl rfl ?_
          refine rn_bipush (v := nI 18) dX8_ways_65 (by decide) ?_
          refine rn_callV0 (st := []) dX8_ways_67 cf_8_190 (m_turnD hs (g := 18) (by decide) hO0 hH3) (by omega) (sk_l hs 44 (by decide)) (sk_k44 hs) rfl rfl (Nat.le_of_ble_eq_true rfl) (fun r1 S1 J3 hq => ?_)
          obtain ⟨rfl, rfl, hH4, hF3⟩ := hq
          refine rn_iinc (v := nI 3) (ls' := [some (.ref 44), some (.int (nI g)), some (.int (nI (wyN D K 3))), some (.int (nI 3))]) dX8_ways_70 rfl (nI_add _ 1) (by decide) rfl rfl ?_
          refine rn_goto (tgt := 11) dX8_ways_73 (by decide) ?_
          exact L3 J3 (((hG.trans hF1).trans hF2).trans hF3) (gr_t3 hH4)
        · refine rn_iconst (v := nI 1) dX8_ways_51 (by decide) ?_
          refine rn_goto (tgt := 56) dX8_ways_52 (by decide) ?_
          refine rn_iadd dX8_ways_56 ?_
          refine rn_top (nI_add _ _) ?_
          refine rn_top (y := nI (wyN D K 3)) (by show _ = nI (wyN D K 2 + bN (pb (eqD (TT 2 0 D) K)) + bN (pb (eqD (TT 2 1 D) K))); rw [c_48]; rfl) ?_
          refine rn_istore_n (ls' := [some (.ref 44), some (.int (nI g)), some (.int (nI (wyN D K 3))), some (.int (nI 2))]) dX8_ways_57 rfl (by decide) rfl rfl ?_
          refine rn_aload_n dX8_ways_58 rfl rfl ?_
          refine rn_bipush (v := nI 18) dX8_ways_59 (by decide) ?_
          refine rn_callV0 (st := []) dX8_ways_61 cf_8_193 (m_flipD hs (g := 18) (by decide) hO1 hH1) (by omega) (sk_l hs 44 (by decide)) (sk_k44 hs) rfl rfl (Nat.le_of_ble_eq_true rfl) (fun r1 S1 J2 hq => ?_)
          obtain ⟨rfl, rfl, hH2, hF2⟩ := hq
          have hH3 := gr_ff hH2
          refine rn_aload_n dX8_ways_64 rfl rfl ?_
          refine rn_bipush (v := nI 18) dX8_ways_65 (by decide) ?_
          refine rn_callV0 (st := []) dX8_ways_67 cf_8_190 (m_turnD hs (g := 18) (by decide) hO0 hH3) (by omega) (sk_l hs 44 (by decide)) (sk_k44 hs) rfl rfl (Nat.le_of_ble_eq_true rfl) (fun r1 S1 J3 hq => ?_)
          obtain ⟨rfl, rfl, hH4, hF3⟩ := hq
          refine rn_iinc (v := nI 3) (ls' := [some (.ref 44), some (.int (nI g)), some (.int (nI (wyN D K 3))), some (.int (nI 3))]) dX8_ways_70 rfl (nI_add _ 1) (by decide) rfl rfl ?_
          refine rn_goto (tgt := 11) dX8_ways_73 (by decide) ?_
          exact L3 J3 (((hG.trans hF1).trans hF2).trans hF3) (gr_t3 hH4)
      · refine rn_iconst (v := nI 1) dX8_ways_27 (by decide) ?_
        refine rn_goto (tgt := 32) dX8_ways_28 (by decide) ?_
        refine rn_iadd dX8_ways_32 ?_
        refine rn_top (nI_add _ _) ?_
        refine rn_top (y := nI (wyN D K 2 + bN (pb (eqD (TT 2 0 D) K)))) (by rw [c_24]; rfl) ?_
        refine rn_istore_n (ls' := [some (.ref 44), some (.int (nI g)), some (.int (nI (wyN D K 2 + bN (pb (eqD (TT 2 0 D) K))))), some (.int (nI 2))]) dX8_ways_33 rfl (by decide) rfl rfl ?_
        refine rn_aload_n dX8_ways_34 rfl rfl ?_
        refine rn_bipush (v := nI 18) dX8_ways_35 (by decide) ?_
        refine rn_callV0 (st := []) dX8_ways_37 cf_8_193 (m_flipD hs (g := 18) (by decide) hO0 hH) (by omega) (sk_l hs 44 (by decide)) (sk_k44 hs) rfl rfl (Nat.le_of_ble_eq_true rfl) (fun r1 S1 J1 hq => ?_)
        obtain ⟨rfl, rfl, hH1, hF1⟩ := hq
        refine rn_iload_n dX8_ways_40 rfl rfl ?_
        refine rn_aload_n dX8_ways_41 rfl rfl ?_
        refine rn_bipush (v := nI 18) dX8_ways_42 (by decide) ?_
        refine rn_iload_n dX8_ways_44 rfl rfl ?_
        refine rn_callVq (st := [.int (nI (wyN D K 2 + bN (pb (eqD (TT 2 0 D) K))))]) dX8_ways_45 cf_8_233 (c_X8_isSame hs (f := 18) (g := g) (by decide) (by omega) hH1.1 hH1.2.1 ((hgK.kept hG hgn).kept hF1 hgn).1 ((hgK.kept hG hgn).kept hF1 hgn).2.1 hO1.1.2 hO1.2.1.2 hOK.1.2 hOK.2.1.2) (by omega) (sk_l hs 44 (by decide)) (sk_k44 hs) rfl rfl (Nat.le_of_ble_eq_true rfl) ?_
        refine rn_top (y := am_b (pb (eqD (TT 2 1 D) K))) (congrArg am_b (pb_congr (eq_M (D := TT 2 1 D) hO1 hOK hH1 ((hgK.kept hG hgn).kept hF1 hgn)))) ?_
        refine rn_if_eqB (tgt := 55) dX8_ways_48 (by decide) (fun c_48 => ?_) (fun c_48 => ?_)
        · refine rn_iconst (v := nI 0) dX8_ways_55 (by decide) ?_
          refine rn_iadd dX8_ways_56 ?_
          refine rn_top (nI_add _ _) ?_
          refine rn_top (y := nI (wyN D K 3)) (by show _ = nI (wyN D K 2 + bN (pb (eqD (TT 2 0 D) K)) + bN (pb (eqD (TT 2 1 D) K))); rw [c_48]; rfl) ?_
          refine rn_istore_n (ls' := [some (.ref 44), some (.int (nI g)), some (.int (nI (wyN D K 3))), some (.int (nI 2))]) dX8_ways_57 rfl (by decide) rfl rfl ?_
          refine rn_aload_n dX8_ways_58 rfl rfl ?_
          refine rn_bipush (v := nI 18) dX8_ways_59 (by decide) ?_
          refine rn_callV0 (st := []) dX8_ways_61 cf_8_193 (m_flipD hs (g := 18) (by decide) hO1 hH1) (by omega) (sk_l hs 44 (by decide)) (sk_k44 hs) rfl rfl (Nat.le_of_ble_eq_true rfl) (fun r1 S1 J2 hq => ?_)
          obtain ⟨rfl, rfl, hH2, hF2⟩ := hq
          have hH3 := gr_ff hH2
          refine rn_aload_n dX8_ways_64 rfl rfl ?_
          refine rn_bipush (v := nI 18) dX8_ways_65 (by decide) ?_
          refine rn_callV0 (st := []) dX8_ways_67 cf_8_190 (m_turnD hs (g := 18) (by decide) hO0 hH3) (by omega) (sk_l hs 44 (by decide)) (sk_k44 hs) rfl rfl (Nat.le_of_ble_eq_true rfl) (fun r1 S1 J3 hq => ?_)
          obtain ⟨rfl, rfl, hH4, hF3⟩ := hq
          refine rn_iinc (v := nI 3) (ls' := [some (.ref 44), some (.int (nI g)), some (.int (nI (wyN D K 3))), some (.int (nI 3))]) dX8_ways_70 rfl (nI_add _ 1) (by decide) rfl rfl ?_
          refine rn_goto (tgt := 11) dX8_ways_73 (by decide) ?_
          exact L3 J3 (((hG.trans hF1).trans hF2).trans hF3) (gr_t3 hH4)
        · refine rn_iconst (v := nI 1) dX8_ways_51 (by decide) ?_
          refine rn_goto (tgt := 56) dX8_ways_52 (by decide) ?_
          refine rn_iadd dX8_ways_56 ?_
          refine rn_top (nI_add _ _) ?_
          refine rn_top (y := nI (wyN D K 3)) (by show _ = nI (wyN D K 2 + bN (pb (eqD (TT 2 0 D) K)) + bN (pb (eqD (TT 2 1 D) K))); rw [c_48]; rfl) ?_
          refine rn_istore_n (ls' := [some (.ref 44), some (.int (nI g)), some (.int (nI (wyN D K 3))), some (.int (nI 2))]) dX8_ways_57 rfl (by decide) rfl rfl ?_
          refine rn_aload_n dX8_ways_58 rfl rfl ?_
          refine rn_bipush (v := nI 18) dX8_ways_59 (by decide) ?_
          refine rn_callV0 (st := []) dX8_ways_61 cf_8_193 (m_flipD hs (g := 18) (by decide) hO1 hH1) (by omega) (sk_l hs 44 (by decide)) (sk_k44 hs) rfl rfl (Nat.le_of_ble_eq_true rfl) (fun r1 S1 J2 hq => ?_)
          obtain ⟨rfl, rfl, hH2, hF2⟩ := hq
          have hH3 := gr_ff hH2
          refine rn_aload_n dX8_ways_64 rfl rfl ?_
          refine rn_bipush (v := nI 18) dX8_ways_65 (by decide) ?_
          refine rn_callV0 (st := []) dX8_ways_67 cf_8_190 (m_turnD hs (g := 18) (by decide) hO0 hH3) (by omega) (sk_l hs 44 (by decide)) (sk_k44 hs) rfl rfl (Nat.le_of_ble_eq_true rfl) (fun r1 S1 J3 hq => ?_)
          obtain ⟨rfl, rfl, hH4, hF3⟩ := hq
          refine rn_iinc (v := nI 3) (ls' := [some (.ref 44), some (.int (nI g)), some (.int (nI (wyN D K 3))), some (.int (nI 3))]) dX8_ways_70 rfl (nI_add _ 1) (by decide) rfl rfl ?_
          refine rn_goto (tgt := 11) dX8_ways_73 (by decide) ?_
          exact L3 J3 (((hG.trans hF1).trans hF2).trans hF3) (gr_t3 hH4)
  have L1 : ∀ J : am_I, GF I J → grD J 18 (TT 1 0 D) → am_Rn 2 Y_X8_ways (0, 0) 11 [some (.ref 44), some (.int (nI g)), some (.int (nI (wyN D K 1))), some (.int (nI 1))] [] S J (fun r S' I' => r = some (.int (nI (wyN D K 4))) ∧ S' = S ∧ GF I I') := by
    intro J hG hH
    have hO0 : okD (TT 1 0 D) := okD_T1 hOD
    have hO1 : okD (oFlip (TT 1 0 D)) := okD_flip hO0
    refine rn_iload_n dX8_ways_11 rfl rfl ?_
    refine rn_iconst (v := nI 4) dX8_ways_12 (by decide) ?_
    refine rn_icmp_geN (tgt := 76) dX8_ways_13 (by decide) (by omega) (by omega) (fun c_13 => ?_) (fun c_13 => ?_)
    · exact absurd c_13 (by decide)
    · refine rn_iload_n dX8_ways_16 rfl rfl ?_
      refine rn_aload_n dX8_ways_17 rfl rfl ?_
      refine rn_bipush (v := nI 18) dX8_ways_18 (by decide) ?_
      refine rn_iload_n dX8_ways_20 rfl rfl ?_
      refine rn_callVq (st := [.int (nI (wyN D K 1))]) dX8_ways_21 cf_8_233 (c_X8_isSame hs (f := 18) (g := g) (by decide) (by omega) hH.1 hH.2.1 (hgK.kept hG hgn).1 (hgK.kept hG hgn).2.1 hO0.1.2 hO0.2.1.2 hOK.1.2 hOK.2.1.2) (by omega) (sk_l hs 44 (by decide)) (sk_k44 hs) rfl rfl (Nat.le_of_ble_eq_true rfl) ?_
      refine rn_top (y := am_b (pb (eqD (TT 1 0 D) K))) (congrArg am_b (pb_congr (eq_M hO0 hOK hH (hgK.kept hG hgn)))) ?_
      refine rn_if_eqB (tgt := 31) dX8_ways_24 (by decide) (fun c_24 => ?_) (fun c_24 => ?_)
      · refine rn_iconst (v := nI 0) dX8_ways_31 (by decide) ?_
        refine rn_iadd dX8_ways_32 ?_
        refine rn_top (nI_add _ _) ?_
        refine rn_top (y := nI (wyN D K 1 + bN (pb (eqD (TT 1 0 D) K)))) (by rw [c_24]; rfl) ?_
        refine rn_istore_n (ls' := [some (.ref 44), some (.int (nI g)), some (.int (nI (wyN D K 1 + bN (pb (eqD (TT 1 0 D) K))))), some (.int (nI 1))]) dX8_ways_33 rfl (by decide) rfl rfl ?_
        refine rn_aload_n dX8_ways_34 rfl rfl ?_
        refine rn_bipush (v := nI 18) dX8_ways_35 (by decide) ?_
        refine rn_callV0 (st := []) dX8_ways_37 cf_8_193 (m_flipD hs (g := 18) (by decide) hO0 hH) (by omega) (sk_l hs 44 (by decide)) (sk_k44 hs) rfl rfl (Nat.le_of_ble_eq_true rfl) (fun r1 S1 J1 hq => ?_)
        obtain ⟨rfl, rfl, hH1, hF1⟩ := hq
        refine rn_iload_n dX8_ways_40 rfl rfl ?_
        refine rn_aload_n dX8_ways_41 rfl rfl ?_
        refine rn_bipush (v := nI 18) dX8_ways_42 (by decide) ?_
        refine rn_iload_n dX8_ways_44 rfl rfl ?_
        refine rn_callVq (st := [.int (nI (wyN D K 1 + bN (pb (eqD (TT 1 0 D) K))))]) dX8_ways_45 cf_8_233 (c_X8_isSame hs (f := 18) (g := g) (by decide) (by omega) hH1.1 hH1.2.1 ((hgK.kept hG hgn).kept hF1 hgn).1 ((hgK.kept hG hgn).kept hF1 hgn).2.1 hO1.1.2 hO1.2.1.2 hOK.1.2 hOK.2.1.2) (by omega) (sk_l hs 44 (by decide)) (sk_k44 hs) rfl rfl (Nat.le_of_ble_eq_true rfl) ?_
        refine rn_top (y := am_b (pb (eqD (TT 1 1 D) K))) (congrArg am_b (pb_congr (eq_M (D := TT 1 1 D) hO1 hOK hH1 ((hgK.kept hG hgn).kept hF1 hgn)))) ?_
        refine rn_if_eqB (tgt := 55) dX8_ways_48 (by decide) (fun c_48 => ?_) (fun c_48 => ?_)
        · refine rn_iconst (v := nI 0) dX8_ways_55 (by decide) ?_
          refine rn_iadd dX8_ways_56 ?_
          refine rn_top (nI_add _ _) ?_
          refine rn_top (y := nI (wyN D K 2)) (by show _ = nI (wyN D K 1 + bN (pb (eqD (TT 1 0 D) K)) + bN (pb (eqD (TT 1 1 D) K))); rw [c_48]; rfl) ?_
          refine rn_istore_n (ls' := [some (.ref 44), some (.int (nI g)), some (.int (nI (wyN D K 2))), some (.int (nI 1))]) dX8_ways_57 rfl (by decide) rfl rfl ?_
          refine rn_aload_n dX8_ways_58 rfl rfl ?_
          refine rn_bipush (v := nI 18) dX8_ways_59 (by decide) ?_
          refine rn_callV0 (st := []) dX8_ways_61 cf_8_193 (m_flipD hs (g := 18) (by decide) hO1 hH1) (by omega) (sk_l hs 44 (by decide)) (sk_k44 hs) rfl rfl (Nat.le_of_ble_eq_true rfl) (fun r1 S1 J2 hq => ?_)
          obtain ⟨rfl, rfl, hH2, hF2⟩ := hq
          have hH3 := gr_ff hH2
          refine rn_aload_n dX8_ways_64 rfl rfl ?_
          refine rn_bipush (v := nI 18) dX8_ways_65 (by decide) ?_
          refine rn_callV0 (st := []) dX8_ways_67 cf_8_190 (m_turnD hs (g := 18) (by decide) hO0 hH3) (by omega) (sk_l hs 44 (by decide)) (sk_k44 hs) rfl rfl (Nat.le_of_ble_eq_true rfl) (fun r1 S1 J3 hq => ?_)
          obtain ⟨rfl, rfl, hH4, hF3⟩ := hq
          refine rn_iinc (v := nI 2) (ls' := [some (.ref 44), some (.int (nI g)), some (.int (nI (wyN D K 2))), some (.int (nI 2))]) dX8_ways_70 rfl (nI_add _ 1) (by decide) rfl rfl ?_
          refine rn_goto (tgt := 11) dX8_ways_73 (by decide) ?_
          exact L2 J3 (((hG.trans hF1).trans hF2).trans hF3) (gr_t2 hOD hH4)
        · refine rn_iconst (v := nI 1) dX8_ways_51 (by decide) ?_
          refine rn_goto (tgt := 56) dX8_ways_52 (by decide) ?_
          refine rn_iadd dX8_ways_56 ?_
          refine rn_top (nI_add _ _) ?_
          refine rn_top (y := nI (wyN D K 2)) (by show _ = nI (wyN D K 1 + bN (pb (eqD (TT 1 0 D) K)) + bN (pb (eqD (TT 1 1 D) K))); rw [c_48]; rfl) ?_
          refine rn_istore_n (ls' := [some (.ref 44), some (.int (nI g)), some (.int (nI (wyN D K 2))), some (.int (nI 1))]) dX8_ways_57 rfl (by decide) rfl rfl ?_
          refine rn_aload_n dX8_ways_58 rfl rfl ?_
          refine rn_bipush (v := nI 18) dX8_ways_59 (by decide) ?_
          refine rn_callV0 (st := []) dX8_ways_61 cf_8_193 (m_flipD hs (g := 18) (by decide) hO1 hH1) (by omega) (sk_l hs 44 (by decide)) (sk_k44 hs) rfl rfl (Nat.le_of_ble_eq_true rfl) (fun r1 S1 J2 hq => ?_)
          obtain ⟨rfl, rfl, hH2, hF2⟩ := hq
          have hH3 := gr_ff hH2
          refine rn_aload_n dX8_ways_64 rfl rfl ?_
          refine rn_bipush (v := nI 18) dX8_ways_65 (by decide) ?_
          refine rn_callV0 (st := []) dX8_ways_67 cf_8_190 (m_turnD hs (g := 18) (by decide) hO0 hH3) (by omega) (sk_l hs 44 (by decide)) (sk_k44 hs) rfl rfl (Nat.le_of_ble_eq_true rfl) (fun r1 S1 J3 hq => ?_)
          obtain ⟨rfl, rfl, hH4, hF3⟩ := hq
          refine rn_iinc (v := nI 2) (ls' := [some (.ref 44), some (.int (nI g)), some (.int (nI (wyN D K 2))), some (.int (nI 2))]) dX8_ways_70 rfl (nI_add _ 1) (by decide) rfl rfl ?_
          refine rn_goto (tgt := 11) dX8_ways_73 (by decide) ?_
          exact L2 J3 (((hG.trans hF1).trans hF2).trans hF3) (gr_t2 hOD hH4)
      · refine rn_iconst (v := nI 1) dX8_ways_27 (by decide) ?_
        refine rn_goto (tgt := 32) dX8_ways_28 (by decide) ?_
        refine rn_iadd dX8_ways_32 ?_
        refine rn_top (nI_add _ _) ?_
        refine rn_top (y := nI (wyN D K 1 + bN (pb (eqD (TT 1 0 D) K)))) (by rw [c_24]; rfl) ?_
        refine rn_istore_n (ls' := [some (.ref 44), some (.int (nI g)), some (.int (nI (wyN D K 1 + bN (pb (eqD (TT 1 0 D) K))))), some (.int (nI 1))]) dX8_ways_33 rfl (by decide) rfl rfl ?_
        refine rn_aload_n dX8_ways_34 rfl rfl ?_
        refine rn_bipush (v := nI 18) dX8_ways_35 (by decide) ?_
        refine rn_callV0 (st := []) dX8_ways_37 cf_8_193 (m_flipD hs (g := 18) (by decide) hO0 hH) (by omega) (sk_l hs 44 (by decide)) (sk_k44 hs) rfl rfl (Nat.le_of_ble_eq_true rfl) (fun r1 S1 J1 hq => ?_)
        obtain ⟨rfl, rfl, hH1, hF1⟩ := hq
        refine rn_iload_n dX8_ways_40 rfl rfl ?_
        refine rn_aload_n dX8_ways_41 rfl rfl ?_
        refine rn_bipush (v := nI 18) dX8_ways_42 (by decide) ?_
        refine rn_iload_n dX8_ways_44 rfl rfl ?_
        refine rn_callVq (st := [.int (nI (wyN D K 1 + bN (pb (eqD (TT 1 0 D) K))))]) dX8_ways_45 cf_8_233 (c_X8_isSame hs (f := 18) (g := g) (by decide) (by omega) hH1.1 hH1.2.1 ((hgK.kept hG hgn).kept hF1 hgn).1 ((hgK.kept hG hgn).kept hF1 hgn).2.1 hO1.1.2 hO1.2.1.2 hOK.1.2 hOK.2.1.2) (by omega) (sk_l hs 44 (by decide)) (sk_k44 hs) rfl rfl (Nat.le_of_ble_eq_true rfl) ?_
        refine rn_top (y := am_b (pb (eqD (TT 1 1 D) K))) (congrArg am_b (pb_congr (eq_M (D := TT 1 1 D) hO1 hOK hH1 ((hgK.kept hG hgn).kept hF1 hgn)))) ?_
        refine rn_if_eqB (tgt := 55) dX8_ways_48 (by decide) (fun c_48 => ?_) (fun c_48 => ?_)
        · refine rn_iconst (v := nI 0) dX8_ways_55 (by decide) ?_
          refine rn_iadd dX8_ways_56 ?_
          refine rn_top (nI_add _ _) ?_
          refine rn_top (y := nI (wyN D K 2)) (by show _ = nI (wyN D K 1 + bN (pb (eqD (TT 1 0 D) K)) + bN (pb (eqD (TT 1 1 D) K))); rw [c_48]; rfl) ?_
          refine rn_istore_n (ls' := [some (.ref 44), some (.int (nI g)), some (.int (nI (wyN D K 2))), some (.int (nI 1))]) dX8_ways_57 rfl (by decide) rfl rfl ?_
          refine rn_aload_n dX8_ways_58 rfl rfl ?_
          refine rn_bipush (v := nI 18) dX8_ways_59 (by decide) ?_
          refine rn_callV0 (st := []) dX8_ways_61 cf_8_193 (m_flipD hs (g := 18) (by decide) hO1 hH1) (by omega) (sk_l hs 44 (by decide)) (sk_k44 hs) rfl rfl (Nat.le_of_ble_eq_true rfl) (fun r1 S1 J2 hq => ?_)
          obtain ⟨rfl, rfl, hH2, hF2⟩ := hq
          have hH3 := gr_ff hH2
          refine rn_aload_n dX8_ways_64 rfl rfl ?_
          refine rn_bipush (v := nI 18) dX8_ways_65 (by decide) ?_
          refine rn_callV0 (st := []) dX8_ways_67 cf_8_190 (m_turnD hs (g := 18) (by decide) hO0 hH3) (by omega) (sk_l hs 44 (by decide)) (sk_k44 hs) rfl rfl (Nat.le_of_ble_eq_true rfl) (fun r1 S1 J3 hq => ?_)
          obtain ⟨rfl, rfl, hH4, hF3⟩ := hq
          refine rn_iinc (v := nI 2) (ls' := [some (.ref 44), some (.int (nI g)), some (.int (nI (wyN D K 2))), some (.int (nI 2))]) dX8_ways_70 rfl (nI_add _ 1) (by decide) rfl rfl ?_
          refine rn_goto (tgt := 11) dX8_ways_73 (by decide) ?_
          exact L2 J3 (((hG.trans hF1).trans hF2).trans hF3) (gr_t2 hOD hH4)
        · refine rn_iconst (v := nI 1) dX8_ways_51 (by decide) ?_
          refine rn_goto (tgt := 56) dX8_ways_52 (by decide) ?_
          refine rn_iadd dX8_ways_56 ?_
          refine rn_top (nI_add _ _) ?_
          refine rn_top (y := nI (wyN D K 2)) (by show _ = nI (wyN D K 1 + bN (pb (eqD (TT 1 0 D) K)) + bN (pb (eqD (TT 1 1 D) K))); rw [c_48]; rfl) ?_
          refine rn_istore_n (ls' := [some (.ref 44), some (.int (nI g)), some (.int (nI (wyN D K 2))), some (.int (nI 1))]) dX8_ways_57 rfl (by decide) rfl rfl ?_
          refine rn_aload_n dX8_ways_58 rfl rfl ?_
          refine rn_bipush (v := nI 18) dX8_ways_59 (by decide) ?_
          refine rn_callV0 (st := []) dX8_ways_61 cf_8_193 (m_flipD hs (g := 18) (by decide) hO1 hH1) (by omega) (sk_l hs 44 (by decide)) (sk_k44 hs) rfl rfl (Nat.le_of_ble_eq_true rfl) (fun r1 S1 J2 hq => ?_)
          obtain ⟨rfl, rfl, hH2, hF2⟩ := hq
          have hH3 := gr_ff hH2
          refine rn_aload_n dX8_ways_64 rfl rfl ?_
          refine rn_bipush (v := nI 18) dX8_ways_65 (by decide) ?_
          refine rn_callV0 (st := []) dX8_ways_67 cf_8_190 (m_turnD hs (g := 18) (by decide) hO0 hH3) (by omega) (sk_l hs 44 (by decide)) (sk_k44 hs) rfl rfl (Nat.le_of_ble_eq_true rfl) (fun r1 S1 J3 hq => ?_)
          obtain ⟨rfl, rfl, hH4, hF3⟩ := hq
          refine rn_iinc (v := nI 2) (ls' := [some (.ref 44), some (.int (nI g)), some (.int (nI (wyN D K 2))), some (.int (nI 2))]) dX8_ways_70 rfl (nI_add _ 1) (by decide) rfl rfl ?_
          refine rn_goto (tgt := 11) dX8_ways_73 (by decide) ?_
          exact L2 J3 (((hG.trans hF1).trans hF2).trans hF3) (gr_t2 hOD hH4)
  have L0 : ∀ J : am_I, GF I J → grD J 18 (TT 0 0 D) → am_Rn 2 Y_X8_ways (0, 0) 11 [some (.ref 44), some (.int (nI g)), some (.int (nI (wyN D K 0))), some (.int (nI 0))] [] S J (fun r S' I' => r = some (.int (nI (wyN D K 4))) ∧ S' = S ∧ GF I I') := by
    intro J hG hH
    have hO0 : okD (TT 0 0 D) := okD_T0 hOD
    have hO1 : okD (oFlip (TT 0 0 D)) := okD_flip hO0
    refine rn_iload_n dX8_ways_11 rfl rfl ?_
    refine rn_iconst (v := nI 4) dX8_ways_12 (by decide) ?_
    refine rn_icmp_geN (tgt := 76) dX8_ways_13 (by decide) (by omega) (by omega) (fun c_13 => ?_) (fun c_13 => ?_)
    · exact absurd c_13 (by decide)
    · refine rn_iload_n dX8_ways_16 rfl rfl ?_
      refine rn_aload_n dX8_ways_17 rfl rfl ?_
      refine rn_bipush (v := nI 18) dX8_ways_18 (by decide) ?_
      refine rn_iload_n dX8_ways_20 rfl rfl ?_
      refine rn_callVq (st := [.int (nI (wyN D K 0))]) dX8_ways_21 cf_8_233 (c_X8_isSame hs (f := 18) (g := g) (by decide) (by omega) hH.1 hH.2.1 (hgK.kept hG hgn).1 (hgK.kept hG hgn).2.1 hO0.1.2 hO0.2.1.2 hOK.1.2 hOK.2.1.2) (by omega) (sk_l hs 44 (by decide)) (sk_k44 hs) rfl rfl (Nat.le_of_ble_eq_true rfl) ?_
      refine rn_top (y := am_b (pb (eqD (TT 0 0 D) K))) (congrArg am_b (pb_congr (eq_M hO0 hOK hH (hgK.kept hG hgn)))) ?_
      refine rn_if_eqB (tgt := 31) dX8_ways_24 (by decide) (fun c_24 => ?_) (fun c_24 => ?_)
      · refine rn_iconst (v := nI 0) dX8_ways_31 (by decide) ?_
        refine rn_iadd dX8_ways_32 ?_
        refine rn_top (nI_add _ _) ?_
        refine rn_top (y := nI (wyN D K 0 + bN (pb (eqD (TT 0 0 D) K)))) (by rw [c_24]; rfl) ?_
        refine rn_istore_n (ls' := [some (.ref 44), some (.int (nI g)), some (.int (nI (wyN D K 0 + bN (pb (eqD (TT 0 0 D) K))))), some (.int (nI 0))]) dX8_ways_33 rfl (by decide) rfl rfl ?_
        refine rn_aload_n dX8_ways_34 rfl rfl ?_
        refine rn_bipush (v := nI 18) dX8_ways_35 (by decide) ?_
        refine rn_callV0 (st := []) dX8_ways_37 cf_8_193 (m_flipD hs (g := 18) (by decide) hO0 hH) (by omega) (sk_l hs 44 (by decide)) (sk_k44 hs) rfl rfl (Nat.le_of_ble_eq_true rfl) (fun r1 S1 J1 hq => ?_)
        obtain ⟨rfl, rfl, hH1, hF1⟩ := hq
        refine rn_iload_n dX8_ways_40 rfl rfl ?_
        refine rn_aload_n dX8_ways_41 rfl rfl ?_
        refine rn_bipush (v := nI 18) dX8_ways_42 (by decide) ?_
        refine rn_iload_n dX8_ways_44 rfl rfl ?_
        refine rn_callVq (st := [.int (nI (wyN D K 0 + bN (pb (eqD (TT 0 0 D) K))))]) dX8_ways_45 cf_8_233 (c_X8_isSame hs (f := 18) (g := g) (by decide) (by omega) hH1.1 hH1.2.1 ((hgK.kept hG hgn).kept hF1 hgn).1 ((hgK.kept hG hgn).kept hF1 hgn).2.1 hO1.1.2 hO1.2.1.2 hOK.1.2 hOK.2.1.2) (by omega) (sk_l hs 44 (by decide)) (sk_k44 hs) rfl rfl (Nat.le_of_ble_eq_true rfl) ?_
        refine rn_top (y := am_b (pb (eqD (TT 0 1 D) K))) (congrArg am_b (pb_congr (eq_M (D := TT 0 1 D) hO1 hOK hH1 ((hgK.kept hG hgn).kept hF1 hgn)))) ?_
        refine rn_if_eqB (tgt := 55) dX8_ways_48 (by decide) (fun c_48 => ?_) (fun c_48 => ?_)
        · refine rn_iconst (v := nI 0) dX8_ways_55 (by decide) ?_
          refine rn_iadd dX8_ways_56 ?_
          refine rn_top (nI_add _ _) ?_
          refine rn_top (y := nI (wyN D K 1)) (by show _ = nI (wyN D K 0 + bN (pb (eqD (TT 0 0 D) K)) + bN (pb (eqD (TT 0 1 D) K))); rw [c_48]; rfl) ?_
          refine rn_istore_n (ls' := [some (.ref 44), some (.int (nI g)), some (.int (nI (wyN D K 1))), some (.int (nI 0))]) dX8_ways_57 rfl (by decide) rfl rfl ?_
          refine rn_aload_n dX8_ways_58 rfl rfl ?_
          refine rn_bipush (v := nI 18) dX8_ways_59 (by decide) ?_
          refine rn_callV0 (st := []) dX8_ways_61 cf_8_193 (m_flipD hs (g := 18) (by decide) hO1 hH1) (by omega) (sk_l hs 44 (by decide)) (sk_k44 hs) rfl rfl (Nat.le_of_ble_eq_true rfl) (fun r1 S1 J2 hq => ?_)
          obtain ⟨rfl, rfl, hH2, hF2⟩ := hq
          have hH3 := gr_ff hH2
          refine rn_aload_n dX8_ways_64 rfl rfl ?_
          refine rn_bipush (v := nI 18) dX8_ways_65 (by decide) ?_
          refine rn_callV0 (st := []) dX8_ways_67 cf_8_190 (m_turnD hs (g := 18) (by decide) hO0 hH3) (by omega) (sk_l hs 44 (by decide)) (sk_k44 hs) rfl rfl (Nat.le_of_ble_eq_true rfl) (fun r1 S1 J3 hq => ?_)
          obtain ⟨rfl, rfl, hH4, hF3⟩ := hq
          refine rn_iinc (v := nI 1) (ls' := [some (.ref 44), some (.int (nI g)), some (.int (nI (wyN D K 1))), some (.int (nI 1))]) dX8_ways_70 rfl (nI_add _ 1) (by decide) rfl rfl ?_
          refine rn_goto (tgt := 11) dX8_ways_73 (by decide) ?_
          exact L1 J3 (((hG.trans hF1).trans hF2).trans hF3) (gr_t1 hH4)
        · refine rn_iconst (v := nI 1) dX8_ways_51 (by decide) ?_
          refine rn_goto (tgt := 56) dX8_ways_52 (by decide) ?_
          refine rn_iadd dX8_ways_56 ?_
          refine rn_top (nI_add _ _) ?_
          refine rn_top (y := nI (wyN D K 1)) (by show _ = nI (wyN D K 0 + bN (pb (eqD (TT 0 0 D) K)) + bN (pb (eqD (TT 0 1 D) K))); rw [c_48]; rfl) ?_
          refine rn_istore_n (ls' := [some (.ref 44), some (.int (nI g)), some (.int (nI (wyN D K 1))), some (.int (nI 0))]) dX8_ways_57 rfl (by decide) rfl rfl ?_
          refine rn_aload_n dX8_ways_58 rfl rfl ?_
          refine rn_bipush (v := nI 18) dX8_ways_59 (by decide) ?_
          refine rn_callV0 (st := []) dX8_ways_61 cf_8_193 (m_flipD hs (g := 18) (by decide) hO1 hH1) (by omega) (sk_l hs 44 (by decide)) (sk_k44 hs) rfl rfl (Nat.le_of_ble_eq_true rfl) (fun r1 S1 J2 hq => ?_)
          obtain ⟨rfl, rfl, hH2, hF2⟩ := hq
          have hH3 := gr_ff hH2
          refine rn_aload_n dX8_ways_64 rfl rfl ?_
          refine rn_bipush (v := nI 18) dX8_ways_65 (by decide) ?_
          refine rn_callV0 (st := []) dX8_ways_67 cf_8_190 (m_turnD hs (g := 18) (by decide) hO0 hH3) (by omega) (sk_l hs 44 (by decide)) (sk_k44 hs) rfl rfl (Nat.le_of_ble_eq_true rfl) (fun r1 S1 J3 hq => ?_)
          obtain ⟨rfl, rfl, hH4, hF3⟩ := hq
          refine rn_iinc (v := nI 1) (ls' := [some (.ref 44), some (.int (nI g)), some (.int (nI (wyN D K 1))), some (.int (nI 1))]) dX8_ways_70 rfl (nI_add _ 1) (by decide) rfl rfl ?_
          refine rn_goto (tgt := 11) dX8_ways_73 (by decide) ?_
          exact L1 J3 (((hG.trans hF1).trans hF2).trans hF3) (gr_t1 hH4)
      · refine rn_iconst (v := nI 1) dX8_ways_27 (by decide) ?_
        refine rn_goto (tgt := 32) dX8_ways_28 (by decide) ?_
        refine rn_iadd dX8_ways_32 ?_
        refine rn_top (nI_add _ _) ?_
        refine rn_top (y := nI (wyN D K 0 + bN (pb (eqD (TT 0 0 D) K)))) (by rw [c_24]; rfl) ?_
        refine rn_istore_n (ls' := [some (.ref 44), some (.int (nI g)), some (.int (nI (wyN D K 0 + bN (pb (eqD (TT 0 0 D) K))))), some (.int (nI 0))]) dX8_ways_33 rfl (by decide) rfl rfl ?_
        refine rn_aload_n dX8_ways_34 rfl rfl ?_
        refine rn_bipush (v := nI 18) dX8_ways_35 (by decide) ?_
        refine rn_callV0 (st := []) dX8_ways_37 cf_8_193 (m_flipD hs (g := 18) (by decide) hO0 hH) (by omega) (sk_l hs 44 (by decide)) (sk_k44 hs) rfl rfl (Nat.le_of_ble_eq_true rfl) (fun r1 S1 J1 hq => ?_)
        obtain ⟨rfl, rfl, hH1, hF1⟩ := hq
        refine rn_iload_n dX8_ways_40 rfl rfl ?_
        refine rn_aload_n dX8_ways_41 rfl rfl ?_
        refine rn_bipush (v := nI 18) dX8_ways_42 (by decide) ?_
        refine rn_iload_n dX8_ways_44 rfl rfl ?_
        refine rn_callVq (st := [.int (nI (wyN D K 0 + bN (pb (eqD (TT 0 0 D) K))))]) dX8_ways_45 cf_8_233 (c_X8_isSame hs (f := 18) (g := g) (by decide) (by omega) hH1.1 hH1.2.1 ((hgK.kept hG hgn).kept hF1 hgn).1 ((hgK.kept hG hgn).kept hF1 hgn).2.1 hO1.1.2 hO1.2.1.2 hOK.1.2 hOK.2.1.2) (by omega) (sk_l hs 44 (by decide)) (sk_k44 hs) rfl rfl (Nat.le_of_ble_eq_true rfl) ?_
        refine rn_top (y := am_b (pb (eqD (TT 0 1 D) K))) (congrArg am_b (pb_congr (eq_M (D := TT 0 1 D) hO1 hOK hH1 ((hgK.kept hG hgn).kept hF1 hgn)))) ?_
        refine rn_if_eqB (tgt := 55) dX8_ways_48 (by decide) (fun c_48 => ?_) (fun c_48 => ?_)
        · refine rn_iconst (v := nI 0) dX8_ways_55 (by decide) ?_
          refine rn_iadd dX8_ways_56 ?_
          refine rn_top (nI_add _ _) ?_
          refine rn_top (y := nI (wyN D K 1)) (by show _ = nI (wyN D K 0 + bN (pb (eqD (TT 0 0 D) K)) + bN (pb (eqD (TT 0 1 D) K))); rw [c_48]; rfl) ?_
          refine rn_istore_n (ls' := [some (.ref 44), some (.int (nI g)), some (.int (nI (wyN D K 1))), some (.int (nI 0))]) dX8_ways_57 rfl (by decide) rfl rfl ?_
          refine rn_aload_n dX8_ways_58 rfl rfl ?_
          refine rn_bipush (v := nI 18) dX8_ways_59 (by decide) ?_
          refine rn_callV0 (st := []) dX8_ways_61 cf_8_193 (m_flipD hs (g := 18) (by decide) hO1 hH1) (by omega) (sk_l hs 44 (by decide)) (sk_k44 hs) rfl rfl (Nat.le_of_ble_eq_true rfl) (fun r1 S1 J2 hq => ?_)
          obtain ⟨rfl, rfl, hH2, hF2⟩ := hq
          have hH3 := gr_ff hH2
          refine rn_aload_n dX8_ways_64 rfl rfl ?_
          refine rn_bipush (v := nI 18) dX8_ways_65 (by decide) ?_
          refine rn_callV0 (st := []) dX8_ways_67 cf_8_190 (m_turnD hs (g := 18) (by decide) hO0 hH3) (by omega) (sk_l hs 44 (by decide)) (sk_k44 hs) rfl rfl (Nat.le_of_ble_eq_true rfl) (fun r1 S1 J3 hq => ?_)
          obtain ⟨rfl, rfl, hH4, hF3⟩ := hq
          refine rn_iinc (v := nI 1) (ls' := [some (.ref 44), some (.int (nI g)), some (.int (nI (wyN D K 1))), some (.int (nI 1))]) dX8_ways_70 rfl (nI_add _ 1) (by decide) rfl rfl ?_
          refine rn_goto (tgt := 11) dX8_ways_73 (by decide) ?_
          exact L1 J3 (((hG.trans hF1).trans hF2).trans hF3) (gr_t1 hH4)
        · refine rn_iconst (v := nI 1) dX8_ways_51 (by decide) ?_
          refine rn_goto (tgt := 56) dX8_ways_52 (by decide) ?_
          refine rn_iadd dX8_ways_56 ?_
          refine rn_top (nI_add _ _) ?_
          refine rn_top (y := nI (wyN D K 1)) (by show _ = nI (wyN D K 0 + bN (pb (eqD (TT 0 0 D) K)) + bN (pb (eqD (TT 0 1 D) K))); rw [c_48]; rfl) ?_
          refine rn_istore_n (ls' := [some (.ref 44), some (.int (nI g)), some (.int (nI (wyN D K 1))), some (.int (nI 0))]) dX8_ways_57 rfl (by decide) rfl rfl ?_
          refine rn_aload_n dX8_ways_58 rfl rfl ?_
          refine rn_bipush (v := nI 18) dX8_ways_59 (by decide) ?_
          refine rn_callV0 (st := []) dX8_ways_61 cf_8_193 (m_flipD hs (g := 18) (by decide) hO1 hH1) (by omega) (sk_l hs 44 (by decide)) (sk_k44 hs) rfl rfl (Nat.le_of_ble_eq_true rfl) (fun r1 S1 J2 hq => ?_)
          obtain ⟨rfl, rfl, hH2, hF2⟩ := hq
          have hH3 := gr_ff hH2
          refine rn_aload_n dX8_ways_64 rfl rfl ?_
          refine rn_bipush (v := nI 18) dX8_ways_65 (by decide) ?_
          refine rn_callV0 (st := []) dX8_ways_67 cf_8_190 (m_turnD hs (g := 18) (by decide) hO0 hH3) (by omega) (sk_l hs 44 (by decide)) (sk_k44 hs) rfl rfl (Nat.le_of_ble_eq_true rfl) (fun r1 S1 J3 hq => ?_)
          obtain ⟨rfl, rfl, hH4, hF3⟩ := hq
          refine rn_iinc (v := nI 1) (ls' := [some (.ref 44), some (.int (nI g)), some (.int (nI (wyN D K 1))), some (.int (nI 1))]) dX8_ways_70 rfl (nI_add _ 1) (by decide) rfl rfl ?_
          refine rn_goto (tgt := 11) dX8_ways_73 (by decide) ?_
          exact L1 J3 (((hG.trans hF1).trans hF2).trans hF3) (gr_t1 hH4)
  refine am_mt ⟨by decide +kernel, rfl⟩ (Nat.le_of_ble_eq_true rfl) rfl ?_
  refine rn_iconst (v := nI 0) dX8_ways_0 (by decide) ?_
  refine rn_istore_n (ls' := [some (.ref 44), some (.int (nI g)), some (.int (nI 0)), none]) dX8_ways_1 rfl (by decide) rfl rfl ?_
  refine rn_aload_n dX8_ways_2 rfl rfl ?_
  refine rn_iconst (v := nI 0) dX8_ways_3 (by decide) ?_
  refine rn_bipush (v := nI 18) dX8_ways_4 (by decide) ?_
  refine rn_callV0 (st := []) dX8_ways_6 cf_8_128 (m_copyD hs (f := 0) (g := 18) (by decide) (by decide) (by decide) hOD hD) (by omega) (sk_l hs 44 (by decide)) (sk_k44 hs) rfl rfl (Nat.le_of_ble_eq_true rfl) (fun r1 S1 J1 hq => ?_)
  obtain ⟨rfl, rfl, hD1, hF1⟩ := hq
  refine rn_iconst (v := nI 0) dX8_ways_9 (by decide) ?_
  refine rn_istore_n (ls' := [some (.ref 44), some (.int (nI g)), some (.int (nI 0)), some (.int (nI 0))]) dX8_ways_10 rfl (by decide) rfl rfl ?_
  exact L0 J1 (GF.rf.s18 hF1) hD1
