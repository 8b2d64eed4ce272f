theorem am_Mt.mono {Y : am_Y} {d : Nat} {b : Nat × Nat} {as : List Value} {S : am_S} {I : am_I} {Q Q' : Option Value → am_S → am_I → Prop} (h : am_Mt d Y b as S I Q) (hQ : ∀ r S' I', Q r S' I' → Q' r S' I') : am_Mt d Y b as S I Q' := by
  intro g l p e a1 a2 a3 s m args below b1 b2 b3 b4
  obtain ⟨n, o, c1, c2, c3, ⟨⟨⟨r, S', I', q1, q2, q3⟩, q4⟩, q5⟩⟩ := h g l p e a1 a2 a3 s m args below b1 b2 b3 b4
  exact ⟨n, o, c1, c2, c3, ⟨⟨⟨r, S', I', q1, hQ _ _ _ q2, q3⟩, q4⟩, q5⟩⟩
def isDD (I : am_I) (a q : Nat) (D : Dw) : Prop := isDr I a q D.1 D.2.1 D.2.2
theorem lay0 (w h : Nat) (M : Nat → Nat → Nat) (i j : Nat) : layM 0 0 w h M zM i j = gv w h M i j := by
  unfold layM gv zM
  rw [Nat.sub_zero, Nat.sub_zero]
  by_cases h1 : nInner w h i j = true
  · rw [if_pos h1]
    by_cases h2 : M i j = 0
    · rw [if_neg (fun q => q.2.2.2 h2), h2]
    · rw [if_pos ⟨Nat.zero_le _, Nat.zero_le _, h1, h2⟩]
  · rw [if_neg h1, if_neg (fun q => h1 q.2.2.1)]
theorem isDr_grow {I I' : am_I} {a q w h w' h' : Nat} {M M' : Nat → Nat → Nat} (hd : isDr I a q w h M) (h0 : I' a 0 = nI w') (h1 : I' a 1 = nI h') (hq : I' q = I q) (hw : w ≤ w') (hh : h ≤ h') (hM : ∀ i j, nInner w' h' i j = true → M' i j = gv w h M i j) : isDr I' a q w' h' M' := by
  refine ⟨h0, h1, fun p hp => ?_⟩
  rw [hq, hd.2.2 p hp]
  congr 1
  generalize 2 * (p % 8) + (p / 8 + 1) % 2 = i
  generalize p / 8 = j
  by_cases h2 : nInner w' h' i j = true
  · rw [show gv w' h' M' i j = M' i j from if_pos h2, hM i j h2]
  · rw [show gv w' h' M' i j = 0 from if_neg h2]
    unfold gv
    rw [if_neg (fun q => h2 (by rw [nIn] at q ⊢; omega))]
section CD
variable {S : am_S} {I : am_I} {a q a0 q0 : Nat} {D E : Dw}
theorem c_besD_n (hd : am_dr S a q) (hd0 : am_dr S a0 q0) (hne : a0 ≠ a) (hq : q0 ≠ q) (hD : okD D) (hE : okD E) (h1 : isDD I a q D) (h2 : isDD I a0 q0 E) (ho : oBes D E = none) : am_Mt 3 Y_X0_growBeside (0, 0) [.ref a, .ref a0] S I (am_q (some (.int (nI 0))) S I) := by
  have hc : ¬ (D.1 + E.1 ≤ 8 ∧ D.2.1 = E.2.1) := fun q9 => by unfold oBes at ho; rw [if_pos q9] at ho; exact absurd ho (by simp)
  refine (c_X0_growBeside hd hd0 hne hq hD.1.1 hD.1.2 hD.2.1.1 hD.2.1.2 hE.1.1 hE.1.2 hE.2.1.1 hE.2.1.2 h1.1 h1.2.1 h2.1 h2.2.1).mono (fun r S' I' h => ?_)
  rcases h with h | h
  · exact absurd h.1 hc
  · exact h.2
theorem c_besD_s {D' : Dw} (hd : am_dr S a q) (hd0 : am_dr S a0 q0) (hne : a0 ≠ a) (hq : q0 ≠ q) (hD : okD D) (hE : okD E) (h1 : isDD I a q D) (h2 : isDD I a0 q0 E) (ho : oBes D E = some D') : am_Mt 3 Y_X0_growBeside (0, 0) [.ref a, .ref a0] S I (fun r S' I' => r = some (.int (nI 1)) ∧ S' = S ∧ isDD I' a q D' ∧ ∀ b, b ≠ a → b ≠ q → I' b = I b) := by
  have hc : D.1 + E.1 ≤ 8 ∧ D.2.1 = E.2.1 := Decidable.byContradiction (fun q9 => by unfold oBes at ho; rw [if_neg q9] at ho; exact absurd ho (by simp))
  have hD' : D' = (D.1 + E.1, D.2.1, layM (2 * D.1) 0 E.1 E.2.1 E.2.2 (layM 0 0 D.1 D.2.1 D.2.2 zM)) := by unfold oBes at ho; rw [if_pos hc] at ho; exact (Option.some.inj ho).symm
  have hw8 := hD.2.1.2
  have hx := hd.ne2 hd0
  refine (c_X0_growBeside hd hd0 hne hq hD.1.1 hD.1.2 hD.2.1.1 hD.2.1.2 hE.1.1 hE.1.2 hE.2.1.1 hE.2.1.2 h1.1 h1.2.1 h2.1 h2.2.1).mono (fun r S' I' h => ?_)
  rcases h with h | h
  · obtain ⟨_, e1, e2, e3⟩ := h
    have g1 : isDr (am_up I a 0 (nI (D.1 + E.1))) a q (D.1 + E.1) D.2.1 (layM 0 0 D.1 D.2.1 D.2.2 zM) := isDr_grow h1 (by rw [am_up_at]) (by rw [am_up_k _ _ (by decide)]; exact h1.2.1) (am_up_a _ _ hd.ne.symm) (by omega) (Nat.le_refl _) (fun i j _ => lay0 _ _ _ i j)
    have g2 : isDr (am_up I a 0 (nI (D.1 + E.1))) a0 q0 E.1 E.2.1 E.2.2 := h2.kept (am_up_a _ _ hne) (am_up_a _ _ (hd0.ne2 hd).symm)
    have g3 := isDr_lay hd hd0 hq hc.1 hD.2.1.2 hE.1.2 hE.2.1.2 (ri := 2 * D.1) (dj := 0) (by omega) (by decide) (by omega) (by omega) hE.2.2 g1 g2
    refine ⟨e1, e2, ?_, fun b b1 b2 => ?_⟩
    · rw [e3, hD']; exact g3.1
    · rw [e3, g3.2 b b2, am_up_a _ _ b1]
  · exact absurd hc h.1
theorem c_abvD_n (hd : am_dr S a q) (hd0 : am_dr S a0 q0) (hne : a0 ≠ a) (hq : q0 ≠ q) (hD : okD D) (hE : okD E) (h1 : isDD I a q D) (h2 : isDD I a0 q0 E) (ho : oAbv D E = none) : am_Mt 3 Y_X0_growBelow (0, 0) [.ref a, .ref a0] S I (am_q (some (.int (nI 0))) S I) := by
  have hc : ¬ (D.2.1 + E.2.1 ≤ 8 ∧ D.1 = E.1) := fun q9 => by unfold oAbv at ho; rw [if_pos q9] at ho; exact absurd ho (by simp)
  refine (c_X0_growBelow hd hd0 hne hq hD.1.1 hD.1.2 hD.2.1.1 hD.2.1.2 hE.1.1 hE.1.2 hE.2.1.1 hE.2.1.2 h1.1 h1.2.1 h2.1 h2.2.1).mono (fun r S' I' h => ?_)
  rcases h with h | h
  · exact absurd h.1 hc
  · exact h.2
theorem c_abvD_s {D' : Dw} (hd : am_dr S a q) (hd0 : am_dr S a0 q0) (hne : a0 ≠ a) (hq : q0 ≠ q) (hD : okD D) (hE : okD E) (h1 : isDD I a q D) (h2 : isDD I a0 q0 E) (ho : oAbv D E = some D') : am_Mt 3 Y_X0_growBelow (0, 0) [.ref a, .ref a0] S I (fun r S' I' => r = some (.int (nI 1)) ∧ S' = S ∧ isDD I' a q D' ∧ ∀ b, b ≠ a → b ≠ q → I' b = I b) := by
  have hc : D.2.1 + E.2.1 ≤ 8 ∧ D.1 = E.1 := Decidable.byContradiction (fun q9 => by unfold oAbv at ho; rw [if_neg q9] at ho; exact absurd ho (by simp))
  have hD' : D' = (D.1, D.2.1 + E.2.1, layM 0 (2 * D.2.1) E.1 E.2.1 E.2.2 (layM 0 0 D.1 D.2.1 D.2.2 zM)) := by unfold oAbv at ho; rw [if_pos hc] at ho; exact (Option.some.inj ho).symm
  have hw8 := hD.1.2
  refine (c_X0_growBelow hd hd0 hne hq hD.1.1 hD.1.2 hD.2.1.1 hD.2.1.2 hE.1.1 hE.1.2 hE.2.1.1 hE.2.1.2 h1.1 h1.2.1 h2.1 h2.2.1).mono (fun r S' I' h => ?_)
  rcases h with h | h
  · obtain ⟨_, e1, e2, e3⟩ := h
    have g1 : isDr (am_up I a 1 (nI (D.2.1 + E.2.1))) a q D.1 (D.2.1 + E.2.1) (layM 0 0 D.1 D.2.1 D.2.2 zM) := isDr_grow h1 (by rw [am_up_k _ _ (by decide)]; exact h1.1) (by rw [am_up_at]) (am_up_a _ _ hd.ne.symm) (Nat.le_refl _) (by omega) (fun i j _ => lay0 _ _ _ i j)
    have g2 : isDr (am_up I a 1 (nI (D.2.1 + E.2.1))) a0 q0 E.1 E.2.1 E.2.2 := h2.kept (am_up_a _ _ hne) (am_up_a _ _ (hd0.ne2 hd).symm)
    have g3 := isDr_lay hd hd0 hq hD.1.2 hc.1 hE.1.2 hE.2.1.2 (ri := 0) (dj := 2 * D.2.1) (by decide) (by omega) (by omega) (by omega) hE.2.2 g1 g2
    refine ⟨e1, e2, ?_, fun b b1 b2 => ?_⟩
    · rw [e3, hD']; exact g3.1
    · rw [e3, g3.2 b b2, am_up_a _ _ b1]
  · exact absurd hc h.1
theorem c_ovrD_n (hd : am_dr S a q) (hd0 : am_dr S a0 q0) (hne : a0 ≠ a) (hq : q0 ≠ q) (hD : okD D) (hE : okD E) (h1 : isDD I a q D) (h2 : isDD I a0 q0 E) (ho : oOvr D E = none) : am_Mt 3 Y_X0_coverWith (0, 0) [.ref a, .ref a0] S I (am_q (some (.int (nI 0))) S I) := by
  have hc : ¬ (D.1 = E.1 ∧ D.2.1 = E.2.1) := fun q9 => by unfold oOvr at ho; rw [if_pos q9] at ho; exact absurd ho (by simp)
  refine (c_X0_coverWith hd hd0 hne hq hD.1.1 hD.1.2 hD.2.1.1 hD.2.1.2 hE.1.1 hE.1.2 hE.2.1.1 hE.2.1.2 h1.1 h1.2.1 h2.1 h2.2.1).mono (fun r S' I' h => ?_)
  rcases h with h | h
  · exact absurd h.1 hc
  · exact h.2
theorem c_ovrD_s {D' : Dw} (hd : am_dr S a q) (hd0 : am_dr S a0 q0) (hne : a0 ≠ a) (hq : q0 ≠ q) (hD : okD D) (hE : okD E) (h1 : isDD I a q D) (h2 : isDD I a0 q0 E) (ho : oOvr D E = some D') : am_Mt 3 Y_X0_coverWith (0, 0) [.ref a, .ref a0] S I (fun r S' I' => r = some (.int (nI 1)) ∧ S' = S ∧ isDD I' a q D' ∧ ∀ b, b ≠ a → b ≠ q → I' b = I b) := by
  have hc : D.1 = E.1 ∧ D.2.1 = E.2.1 := Decidable.byContradiction (fun q9 => by unfold oOvr at ho; rw [if_neg q9] at ho; exact absurd ho (by simp))
  have hD' : D' = (D.1, D.2.1, layM 0 0 E.1 E.2.1 E.2.2 (layM 0 0 D.1 D.2.1 D.2.2 zM)) := by unfold oOvr at ho; rw [if_pos hc] at ho; exact (Option.some.inj ho).symm
  refine (c_X0_coverWith hd hd0 hne hq hD.1.1 hD.1.2 hD.2.1.1 hD.2.1.2 hE.1.1 hE.1.2 hE.2.1.1 hE.2.1.2 h1.1 h1.2.1 h2.1 h2.2.1).mono (fun r S' I' h => ?_)
  rcases h with h | h
  · obtain ⟨_, e1, e2, e3⟩ := h
    have g1 : isDr I a q D.1 D.2.1 (layM 0 0 D.1 D.2.1 D.2.2 zM) := isDr_grow h1 h1.1 h1.2.1 rfl (Nat.le_refl _) (Nat.le_refl _) (fun i j _ => lay0 _ _ _ i j)
    have g3 := isDr_lay hd hd0 hq hD.1.2 hD.2.1.2 hE.1.2 hE.2.1.2 (ri := 0) (dj := 0) (by decide) (by decide) (by omega) (by omega) hE.2.2 g1 h2
    refine ⟨e1, e2, ?_, fun b b1 b2 => ?_⟩
    · rw [e3, hD']; exact g3.1
    · rw [e3, g3.2 b b2]
  · exact absurd hc h.1
theorem c_turnD (hd : am_dr S a q) (hd0 : am_dr S a0 q0) (hne : a0 ≠ a) (hq : q0 ≠ q) (hD : okD D) (h1 : isDD I a0 q0 D) : am_Mt 2 Y_X0_takeTurned (0, 0) [.ref a, .ref a0, .int (nI 1), .int (nI 0)] S I (fun r S' I' => r = none ∧ S' = S ∧ isDD I' a q (oTurn D) ∧ ∀ b, b ≠ a → b ≠ q → I' b = I b) := by
  refine (c_X0_takeTurned_10 hd hd0 hne hq hD.1.1 hD.1.2 hD.2.1.1 hD.2.1.2 h1.1 h1.2.1).mono (fun r S' I' h => ?_)
  obtain ⟨e1, e2, e3⟩ := h
  have g := isDr_turned (t := 1) (f := 0) hd hd0 hne hq hD.1.2 hD.2.1.2 (by decide) (by decide) hD.2.2 h1
  exact ⟨e1, e2, by rw [e3]; exact g.1, fun b b1 b2 => by rw [e3]; exact g.2 b b1 b2⟩
theorem c_flipD (hd : am_dr S a q) (hd0 : am_dr S a0 q0) (hne : a0 ≠ a) (hq : q0 ≠ q) (hD : okD D) (h1 : isDD I a0 q0 D) : am_Mt 2 Y_X0_takeTurned (0, 0) [.ref a, .ref a0, .int (nI 0), .int (nI 1)] S I (fun r S' I' => r = none ∧ S' = S ∧ isDD I' a q (oFlip D) ∧ ∀ b, b ≠ a → b ≠ q → I' b = I b) := by
  refine (c_X0_takeTurned_01 hd hd0 hne hq hD.1.1 hD.1.2 hD.2.1.1 hD.2.1.2 h1.1 h1.2.1).mono (fun r S' I' h => ?_)
  obtain ⟨e1, e2, e3⟩ := h
  have g := isDr_turned (t := 0) (f := 1) hd hd0 hne hq hD.1.2 hD.2.1.2 (by decide) (by decide) hD.2.2 h1
  exact ⟨e1, e2, by rw [e3]; exact g.1, fun b b1 b2 => by rw [e3]; exact g.2 b b1 b2⟩
theorem c_copyD (hd : am_dr S a q) (hd0 : am_dr S a0 q0) (hne : a0 ≠ a) (h1 : isDD I a0 q0 D) : am_Mt 1 Y_X0_copy (0, 0) [.ref a, .ref a0] S I (fun r S' I' => r = none ∧ S' = S ∧ isDD I' a q D ∧ ∀ b, b ≠ a → b ≠ q → I' b = I b) := by
  refine (c_X0_copy hd hd0 hne h1.1 h1.2.1).mono (fun r S' I' h => ?_)
  obtain ⟨e1, e2, e3⟩ := h
  exact ⟨e1, e2, by rw [e3]; exact isDr_cpy hd.ne (hd0.ne2 hd).symm h1, fun b b1 b2 => by rw [e3, dr_cpy_o _ b1 b2]⟩
theorem c_clearD {w h : Nat} (hd : am_dr S a q) (w1 : 1 ≤ w) (w8 : w ≤ 8) (h1 : 1 ≤ h) (h8 : h ≤ 8) : am_Mt 1 Y_X0_clear (0, 0) [.ref a, .int (nI w), .int (nI h)] S I (fun r S' I' => r = none ∧ S' = S ∧ isDD I' a q (w, h, zM) ∧ ∀ b, b ≠ a → b ≠ q → I' b = I b) := by
  refine (c_X0_clear hd w1 w8 h1 h8).mono (fun r S' I' h => ?_)
  obtain ⟨e1, e2, e3⟩ := h
  exact ⟨e1, e2, by rw [e3]; exact isDr_clr _ hd.ne, fun b b1 b2 => by rw [e3, dr_clr_o _ b1 b2]⟩
end CD
theorem rwM_in {w h : Nat} {M : Nat → Nat → Nat} : ∀ k i j, rwM w h M k i j ≠ 0 → nInner (w * k) h i j = true := by
  intro k
  induction k with
  | zero => intro i j h; exact absurd rfl h
  | succ k ih =>
    intro i j h9
    simp only [rwM] at h9
    unfold layM at h9
    split at h9
    · rename_i q
      have h1 := nIn.mp q.2.2.1
      have e1 : 2 * k * w = 2 * (w * k) := by rw [Nat.mul_assoc, Nat.mul_comm k w]
      have e2 : w * (k + 1) = w * k + w := Nat.mul_succ _ _
      rw [nIn, e2]
      omega
    · have h1 := nIn.mp (ih i j h9)
      have e2 : w * (k + 1) = w * k + w := Nat.mul_succ _ _
      rw [nIn, e2]
      omega
theorem rw_gv {w h : Nat} {M : Nat → Nat → Nat} (k i j : Nat) : layM 0 0 (w * k) h (rwM w h M k) zM i j = rwM w h M k i j := by
  rw [lay0]
  unfold gv
  split
  · rfl
  · rename_i q
    exact (Decidable.byContradiction (fun h9 => q (rwM_in k i j (fun e => h9 e.symm)))).symm ▸ rfl
theorem rw_one {w h : Nat} {M : Nat → Nat → Nat} (i j : Nat) : rwM w h M 1 i j = gv w h M i j := by
  have : rwM w h M 1 = layM (2 * 0 * w) 0 w h M zM := rfl
  rw [this, Nat.mul_zero, Nat.zero_mul, lay0]
/-- one more beside a row -/
theorem bes_row {w h k : Nat} {M : Nat → Nat → Nat} (hk : w * (k + 1) ≤ 8) : ∃ D', oBes (w * k, h, rwM w h M k) (w, h, M) = some D' ∧ D'.1 = w * (k + 1) ∧ D'.2.1 = h ∧ ∀ i j, D'.2.2 i j = rwM w h M (k + 1) i j := by
  have e2 : w * (k + 1) = w * k + w := Nat.mul_succ _ _
  refine ⟨_, if_pos ⟨by show w * k + w ≤ 8; omega, rfl⟩, e2.symm, rfl, fun i j => ?_⟩
  show layM (2 * (w * k)) 0 w h M (layM 0 0 (w * k) h (rwM w h M k) zM) i j = layM (2 * k * w) 0 w h M (rwM w h M k) i j
  rw [show layM 0 0 (w * k) h (rwM w h M k) zM = rwM w h M k from funext (fun i => funext (fun j => rw_gv k i j)), show 2 * k * w = 2 * (w * k) by rw [Nat.mul_assoc, Nat.mul_comm k w]]
theorem bes_row_n {w h k : Nat} {M M' : Nat → Nat → Nat} (hk : ¬ w * (k + 1) ≤ 8) : oBes (w * k, h, M') (w, h, M) = none := by
  have e2 : w * (k + 1) = w * k + w := Nat.mul_succ _ _
  exact if_neg (fun q => by have h1 : w * k + w ≤ 8 := q.1; omega)
theorem tW_nl {B : Nat → Nat} {s e : Nat} (h : ¬ isLt B s = true) : tW B s e = 2 := by
  refine tW_2 (fun W hW q => h ?_)
  have h1 := (spd_iff.mp q).2 0
  unfold isLt
  rw [decide_eq_true_eq]
  simp only [wLs, List.mem_cons, List.not_mem_nil, or_false] at hW
  rcases hW with rfl | rfl | rfl | rfl | rfl | rfl | rfl | rfl | rfl <;> (have h2 := h1 (by decide); rw [Nat.add_zero] at h2; rw [h2]; decide)
theorem tW_same {B : Nat → Nat} {s : Nat} : tW B s s = 2 := by
  refine tW_2 (fun W hW q => ?_)
  have h1 := (spd_iff.mp q).1
  simp only [wLs, List.mem_cons, List.not_mem_nil, or_false] at hW
  rcases hW with rfl | rfl | rfl | rfl | rfl | rfl | rfl | rfl | rfl <;> simp [wPlain, wSet, wTurn, wFlip, wBeside, wAbove, wOver, wRow, wKept] at h1
theorem cW_tK {n : Nat} {B : Nat → Nat} (s : Nat) : cW (tW B s (tE n B s)) = cW (tK n B s) := by
  by_cases h1 : s < n
  · by_cases h2 : isDg B s = true
    · rw [tW_nl (dg_not_lt h2), tK_1.mpr ⟨h1, h2⟩]; rfl
    · unfold tE tK
      rw [if_neg (fun q => h2 q.2), if_pos h1, if_neg h2]
      by_cases h3 : isLt B s = true
      · rw [if_pos h3]
      · rw [if_neg h3, tW_nl h3]
  · have e : tE n B s = s := by unfold tE; rw [if_neg (fun q => h1 q.1), scn_e (fun q => h1 q.1)]
    rw [e, tW_same, tK_0 (by omega)]; rfl
theorem tE_ge {n : Nat} {B : Nat → Nat} {s : Nat} (h : s ≤ n) : s ≤ tE n B s ∧ tE n B s ≤ n := by
  unfold tE
  split
  · exact ⟨scn_ge, scn_le h⟩
  · exact ⟨scn_ge, scn_le h⟩
