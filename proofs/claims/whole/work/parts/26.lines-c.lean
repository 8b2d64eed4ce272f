/-- a way as the machine has it -/
def sg (r : Bool) : Int32 := if r = true then nI 1 else -1
theorem sg_neg (r : Bool) : - sg r = sg (!r) := by cases r <;> decide
theorem sg_t {r : Bool} (h : r = true) : nI 1 = sg r := by rw [h]; rfl
theorem sg_f {r : Bool} (h : r = false) : (-1 : Int32) = sg r := by rw [h]; rfl
theorem sg_le (r : Bool) : sg r ≤ 0 ↔ r = false := by cases r <;> decide
theorem sg_one (r : Bool) : sg r = nI 1 ↔ r = true := by cases r <;> decide
theorem sg_add {r : Bool} {i : Nat} (h : r = false → 1 ≤ i) : nI i + sg r = nI (if r = true then i + 1 else i - 1) := by
  cases r
  · have h1 := h rfl
    show nI i + (-1) = nI (i - 1)
    have e : i = (i - 1) + 1 := by omega
    rw [e, pk_m1]
    congr 1
  · exact nI_add i 1
section SGROWS
variable {d : Nat} {Y : am_Y} {b : Nat × Nat} {pc : Nat} {ls : List (Option Value)} {st : List Value} {S : am_S} {I : am_I} {Q : Option Value → am_S → am_I → Prop}
theorem rn_if_leS {r : Bool} {off : Int} {tgt : Nat} (hdg : decode Y.2.2.1 pc = .ok (.ifCond .le off, 3)) (ht : (pc : Int) + off = (tgt : Int)) (kt : r = false → am_Rn d Y b tgt ls st S I Q) (kf : r = true → am_Rn d Y b (pc + 3) ls st S I Q) : am_Rn d Y b pc ls (.int (sg r) :: st) S I Q :=
  rn_if_le hdg ht (fun h => kt ((sg_le r).mp h)) (fun h => kf (by cases r; exact absurd ((sg_le false).mpr rfl) h; rfl))
end SGROWS
/-- the mirror at a point, whatever point -/
theorem c_X0_mAt {S : am_S} {I : am_I} {a q w h : Nat} {M : Nat → Nat → Nat} (hd : am_dr S a q) (hI : isDr I a q w h M) (w8 : w ≤ 8) (h8 : h ≤ 8) {i j : Nat} (hi : i < 2147483648) (hj : j < 2147483648) : am_Mt 1 Y_X0_mirrorAt (0, 0) [.ref a, .int (nI i), .int (nI j)] S I (am_q (some (.int (nI (gv w h M i j)))) S I) := by
  by_cases hin : nInner w h i j = true
  · have h1 := c_X0_mirrorAt hd hI.1 hI.2.1 w8 h8 hin
    rw [hI.at w8 h8 hin] at h1
    rw [show gv w h M i j = M i j from if_pos hin]
    exact h1
  · have h1 := c_X0_mirrorAt_out hd hI.1 hI.2.1 w8 h8 (i := nI i) (j := nI j) (by rw [pInner_nI hi hj]; simpa using hin)
    rw [show gv w h M i j = 0 from if_neg hin]
    exact h1
theorem lR_pos {w h : Nat} {M : Nat → Nat → Nat} {s : lS} (hs : lInv w h s) (hr : lR w h M s = false) : 0 < lI s := by
  apply Nat.pos_of_ne_zero
  intro e
  have ht : lTx w h M (lI s) (lJ s) = true := decide_eq_true (Or.inl e)
  unfold lR at hr
  rw [if_pos ht] at hr
  obtain ⟨a, b, r, d⟩ := s
  cases r
  · simp at hr
  · simp [lI] at e
theorem lD_pos {w h : Nat} {M : Nat → Nat → Nat} {s : lS} (hs : lInv w h s) (hd : lD w h M s = false) : 0 < lJ s := by
  apply Nat.pos_of_ne_zero
  intro e
  have hy : lTy w h M (lI s) (lJ s) = true := decide_eq_true (Or.inl e)
  have ht : lTx w h M (lI s) (lJ s) = false := by
    cases hq : lTx w h M (lI s) (lJ s) with
    | false => rfl
    | true => have := lT_one hs hq; rw [hy] at this; cases this
  unfold lD at hd
  rw [ht, if_neg (by decide), if_pos hy] at hd
  obtain ⟨a, b, r, d⟩ := s
  cases d
  · simp at hd
  · simp [lJ] at e
/-- the rows of lines while a line is walked: k squares of it are told -/
def fwI (A1 A2 A3 w h : Nat) (M : Nat → Nat → Nat) (s0 : lS) (c bb : Nat) (I : am_I) : Nat → am_I
  | 0 => I
  | k + 1 => am_up (am_up (am_up (fwI A1 A2 A3 w h M s0 c bb I k) A1 (sn w (lt w h M k s0)) (nI c)) A2 (sn w (lt w h M k s0)) (nI k)) A3 (bb + k) (nI (sn w (lt w h M k s0)))
section FW
variable {A1 A2 A3 w h : Nat} {M : Nat → Nat → Nat} {s0 : lS} {c bb : Nat} {I : am_I}
theorem fwI_o {b : Nat} (h1 : b ≠ A1) (h2 : b ≠ A2) (h3 : b ≠ A3) (k : Nat) : fwI A1 A2 A3 w h M s0 c bb I k b = I b := by
  induction k with
  | zero => rfl
  | succ k ih => simp only [fwI]; rw [am_up_a _ _ h3, am_up_a _ _ h2, am_up_a _ _ h1]; exact ih
theorem fwI_1 (h12 : A1 ≠ A2) (h13 : A1 ≠ A3) {x k : Nat} (hx : ∀ l, l < k → sn w (lt w h M l s0) ≠ x) : fwI A1 A2 A3 w h M s0 c bb I k A1 x = I A1 x := by
  induction k with
  | zero => rfl
  | succ k ih =>
    simp only [fwI]
    rw [am_up_a _ _ h13, am_up_a _ _ h12, am_up_k _ _ (fun e => hx k (by omega) e.symm)]
    exact ih (fun l hl => hx l (by omega))
theorem fwI_2 (h12 : A1 ≠ A2) (h23 : A2 ≠ A3) {x k : Nat} (hx : ∀ l, l < k → sn w (lt w h M l s0) ≠ x) : fwI A1 A2 A3 w h M s0 c bb I k A2 x = I A2 x := by
  induction k with
  | zero => rfl
  | succ k ih =>
    simp only [fwI]
    rw [am_up_a _ _ h23, am_up_k _ _ (fun e => hx k (by omega) e.symm), am_up_a _ _ h12.symm]
    exact ih (fun l hl => hx l (by omega))
theorem fwI_3 (h13 : A1 ≠ A3) (h23 : A2 ≠ A3) {x k : Nat} (hx : x < bb ∨ bb + k ≤ x) : fwI A1 A2 A3 w h M s0 c bb I k A3 x = I A3 x := by
  induction k with
  | zero => rfl
  | succ k ih =>
    simp only [fwI]
    rw [am_up_k _ _ (by omega), am_up_a _ _ h23.symm, am_up_a _ _ h13.symm]
    exact ih (by omega)
theorem fwI_at (h12 : A1 ≠ A2) (h13 : A1 ≠ A3) (h23 : A2 ≠ A3) (hs : lInv w h s0) {k l : Nat} (hk : k ≤ per w h M s0) (hl : l < k) : fwI A1 A2 A3 w h M s0 c bb I k A1 (sn w (lt w h M l s0)) = nI c ∧ fwI A1 A2 A3 w h M s0 c bb I k A2 (sn w (lt w h M l s0)) = nI l ∧ fwI A1 A2 A3 w h M s0 c bb I k A3 (bb + l) = nI (sn w (lt w h M l s0)) := by
  induction k with
  | zero => exact absurd hl (by omega)
  | succ k ih =>
    simp only [fwI]
    by_cases hq : l = k
    · subst hq
      refine ⟨?_, ?_, ?_⟩
      · rw [am_up_a _ _ h13, am_up_a _ _ h12, am_up_at]
      · rw [am_up_a _ _ h23, am_up_at]
      · rw [am_up_at]
    · have hne : sn w (lt w h M l s0) ≠ sn w (lt w h M k s0) := fun e => hq (lt_dist hs (by omega) (by omega) e)
      obtain ⟨a1, a2, a3⟩ := ih (by omega) (by omega)
      refine ⟨?_, ?_, ?_⟩
      · rw [am_up_a _ _ h13, am_up_a _ _ h12, am_up_k _ _ hne]; exact a1
      · rw [am_up_a _ _ h23, am_up_k _ _ hne, am_up_a _ _ h12.symm]; exact a2
      · rw [am_up_k _ _ (by omega), am_up_a _ _ h23.symm, am_up_a _ _ h13.symm]; exact a3
end FW
section LFS
variable {A1 A2 A3 A4 w h s : Nat} {M : Nat → Nat → Nat} {I I' : am_I}
/-- a square that lies on a line already -/
theorem LF_skip (w1 : 1 ≤ w) (hs : s < 4 * w * h) (hl : ¬ lead w h M s) (hF : LF w h M I A1 A2 A3 A4 s) : LF w h M I A1 A2 A3 A4 (s + 1) := by
  refine ⟨fun x hx hv => hF.1 x hx (fun q => hv ((vis_skip w1 hs hl).mpr q)), fun y k hy hly hk => ?_, fun y hy hly => ?_⟩
  · rcases Nat.lt_succ_iff_lt_or_eq.mp hy with q | q
    · exact hF.2.1 y k q hly hk
    · subst q; exact absurd hly hl
  · rcases Nat.lt_succ_iff_lt_or_eq.mp hy with q | q
    · exact hF.2.2 y q hly
    · subst q; exact absurd hly hl
/-- a leader's line is walked -/
theorem LF_step (h12 : A1 ≠ A2) (h13 : A1 ≠ A3) (h23 : A2 ≠ A3) (w1 : 1 ≤ w) (hs : s < 4 * w * h) (hl : lead w h M s) (hF : LF w h M I A1 A2 A3 A4 s) (h4 : I' A4 (nl w h M s) = nI (bg w h M s)) (h4' : ∀ x, x < nl w h M s → I' A4 x = I A4 x)
    (e1 : I' A1 = fwI A1 A2 A3 w h M (lst w s) (nl w h M s) (bg w h M s) I (per w h M (lst w s)) A1) (e2 : I' A2 = fwI A1 A2 A3 w h M (lst w s) (nl w h M s) (bg w h M s) I (per w h M (lst w s)) A2) (e3 : I' A3 = fwI A1 A2 A3 w h M (lst w s) (nl w h M s) (bg w h M s) I (per w h M (lst w s)) A3) : LF w h M I' A1 A2 A3 A4 (s + 1) := by
  have hi := lst_inv (h := h) w1 hs
  refine ⟨fun x hx hv => ?_, fun y k hy hly hk => ?_, fun y hy hly => ?_⟩
  · rw [e1, fwI_1 h12 h13 (fun l _ e => hv (vis_succ.mpr (Or.inr ⟨l, e⟩)))]
    exact hF.1 x hx (fun q => hv (vis_succ.mpr (Or.inl q)))
  · rw [e1, e2, e3]
    rcases Nat.lt_succ_iff_lt_or_eq.mp hy with q | q
    · obtain ⟨a1, a2, a3⟩ := hF.2.1 y k q hly hk
      have hne : ∀ l, l < per w h M (lst w s) → sn w (lt w h M l (lst w s)) ≠ sn w (lt w h M k (lst w y)) := fun l _ e => lead_new w1 hs hl ⟨l, e⟩ ⟨y, q, ⟨k, rfl⟩⟩
      have hb : bg w h M y + k < bg w h M s := by
        have h1 := bg_mono (w := w) (h := h) (M := M) (show y + 1 ≤ s by omega)
        rw [bg_s hly] at h1
        omega
      rw [fwI_1 h12 h13 hne, fwI_2 h12 h23 hne, fwI_3 h13 h23 (Or.inl hb)]
      exact ⟨a1, a2, a3⟩
    · subst q
      exact fwI_at h12 h13 h23 hi (Nat.le_refl _) hk
  · rcases Nat.lt_succ_iff_lt_or_eq.mp hy with q | q
    · rw [h4' _ (nl_lead_lt hly q)]
      exact hF.2.2 y q hly
    · subst q; exact h4
end LFS
theorem sq_bound {w h : Nat} (w8 : w ≤ 8) (h8 : h ≤ 8) : 4 * w * h ≤ 256 := Nat.le_trans (Nat.mul_le_mul (Nat.mul_le_mul_left 4 w8) h8) (by decide)
