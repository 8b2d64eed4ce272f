/-! the lines' numbers as functions: line and place of a square, where a line begins -/
noncomputable def ldr (w h : Nat) (M : Nat → Nat → Nat) (x : Nat) : Nat := @dite _ (∃ y, y < 4 * w * h ∧ lead w h M y ∧ on w h M y x) (Classical.propDecidable _) (fun h => Classical.choose h) (fun _ => 0)
noncomputable def lnum (w h : Nat) (M : Nat → Nat → Nat) (x : Nat) : Nat := nl w h M (ldr w h M x)
noncomputable def lplc (w h : Nat) (M : Nat → Nat → Nat) (x : Nat) : Nat := @dite _ (∃ k, k < per w h M (lst w (ldr w h M x)) ∧ sn w (lt w h M k (lst w (ldr w h M x))) = x) (Classical.propDecidable _) (fun h => Classical.choose h) (fun _ => 0)
noncomputable def lbeg (w h : Nat) (M : Nat → Nat → Nat) (l : Nat) : Nat := @dite _ (∃ y, y < 4 * w * h ∧ lead w h M y ∧ nl w h M y = l) (Classical.propDecidable _) (fun q => bg w h M (Classical.choose q)) (fun _ => bg w h M (4 * w * h))
noncomputable def lcnt (w h : Nat) (M : Nat → Nat → Nat) : Nat := nl w h M (4 * w * h)
noncomputable def lall (w h : Nat) (M : Nat → Nat → Nat) : Nat := bg w h M (4 * w * h)
noncomputable def lwk (w h : Nat) (M : Nat → Nat → Nat) (p : Nat) : Nat := wkf w h M (4 * w * h) p
section LINESD
variable {w h : Nat} {M : Nat → Nat → Nat}
theorem ldr_spec (w1 : 1 ≤ w) {x : Nat} (hx : x < 4 * w * h) : ldr w h M x < 4 * w * h ∧ lead w h M (ldr w h M x) ∧ on w h M (ldr w h M x) x := by
  have hv : ∃ y, y < 4 * w * h ∧ lead w h M y ∧ on w h M y x := vis_lead w1 (Nat.le_refl _) (vis_all hx)
  have e : ldr w h M x = Classical.choose hv := dif_pos hv
  rw [e]
  exact Classical.choose_spec hv
theorem ldr_eq (w1 : 1 ≤ w) {x y : Nat} (hx : x < 4 * w * h) (hy : y < 4 * w * h) (hl : lead w h M y) (ho : on w h M y x) : ldr w h M x = y := by
  obtain ⟨a, b, c⟩ := ldr_spec (M := M) w1 hx
  exact lead_uniq w1 a hy b hl c ho
theorem lplc_spec (w1 : 1 ≤ w) {x : Nat} (hx : x < 4 * w * h) : lplc w h M x < per w h M (lst w (ldr w h M x)) ∧ sn w (lt w h M (lplc w h M x) (lst w (ldr w h M x))) = x := by
  obtain ⟨a, b, c⟩ := ldr_spec (M := M) w1 hx
  have hv := on_per w1 a c
  have e : lplc w h M x = Classical.choose hv := dif_pos hv
  rw [e]
  exact Classical.choose_spec hv
theorem lnum_lt (w1 : 1 ≤ w) {x : Nat} (hx : x < 4 * w * h) : lnum w h M x < lcnt w h M := by
  obtain ⟨a, b, c⟩ := ldr_spec (M := M) w1 hx
  exact nl_lead_lt b a
/-- squares of one line have its number -/
theorem lnum_on (w1 : 1 ≤ w) {x y : Nat} (hx : x < 4 * w * h) (ho : on w h M x y) : lnum w h M x = lnum w h M y := by
  have hy := on_lt w1 hx ho
  obtain ⟨a, b, c⟩ := ldr_spec (M := M) w1 hx
  rw [lnum, lnum, ldr_eq w1 hy a b (on_trans w1 a c ho)]
theorem lnum_step (w1 : 1 ≤ w) {s : lS} (hs : lInv w h s) : lnum w h M (sn w (lF w h M s)) = lnum w h M (sn w s) := by
  have hx := sn_lt hs
  have hi := lst_inv (h := h) w1 hx
  obtain ⟨e1, e2⟩ := sn_inj hs hi (sn_lst (w := w) (sn w s)).symm
  have hb := lF_inv (M := M) hs
  rcases sq_same hs hi e1 e2 with e | e
  · exact (lnum_on w1 hx ⟨1, by show sn w (lF w h M (lst w (sn w s))) = _; rw [← e]⟩).symm
  · have hy := sn_lt hb
    have hj := lst_inv (h := h) w1 hy
    obtain ⟨f1, f2⟩ := sn_inj hb hj (sn_lst (w := w) (sn w (lF w h M s))).symm
    rcases sq_same hb hj f1 f2 with f | f
    · -- the next place is a start; the way back leads to s
      have hq := lF_back (M := M) hs
      have : on w h M (sn w s) (sn w (lF w h M s)) := by
        apply on_sym w1 hy
        obtain ⟨n, hn⟩ := lt_pre (M := M) hs 1
        have h9 := hn (lF w h M s) rfl
        exact ⟨n, by rw [← f, h9]⟩
      exact (lnum_on w1 hx this).symm
    · have hq := lF_back (M := M) hs
      rw [f, lV_V] at hq
      exact lnum_on w1 hy ⟨1, by show sn w (lF w h M (lst w (sn w (lF w h M s)))) = _; rw [hq, sn_V]⟩
theorem nl_has {s : Nat} : ∀ l, l < nl w h M s → ∃ y, y < s ∧ lead w h M y ∧ nl w h M y = l := by
  induction s with
  | zero => intro l hl; exact absurd hl (by simp [nl])
  | succ s ih =>
    intro l hl
    by_cases hq : lead w h M s
    · rw [nl_s hq] at hl
      by_cases he : l = nl w h M s
      · exact ⟨s, by omega, hq, he.symm⟩
      · obtain ⟨y, a, b, c⟩ := ih l (by omega); exact ⟨y, by omega, b, c⟩
    · rw [nl_n hq] at hl
      obtain ⟨y, a, b, c⟩ := ih l hl; exact ⟨y, by omega, b, c⟩
theorem lbeg_at {y : Nat} (hy : y < 4 * w * h) (hl : lead w h M y) : lbeg w h M (nl w h M y) = bg w h M y := by
  have hv : ∃ z, z < 4 * w * h ∧ lead w h M z ∧ nl w h M z = nl w h M y := ⟨y, hy, hl, rfl⟩
  have e : lbeg w h M (nl w h M y) = bg w h M (Classical.choose hv) := dif_pos hv
  have hs := Classical.choose_spec hv
  rw [e, nl_inj hs.2.1 hl hs.2.2]
theorem lbeg_end : lbeg w h M (lcnt w h M) = lall w h M := by
  have hv : ¬ ∃ z, z < 4 * w * h ∧ lead w h M z ∧ nl w h M z = lcnt w h M := by
    rintro ⟨z, a, b, c⟩
    have := nl_lead_lt b a
    unfold lcnt at c
    omega
  exact dif_neg hv
theorem lbeg_next {y : Nat} (hy : y < 4 * w * h) (hl : lead w h M y) : lbeg w h M (nl w h M y + 1) = bg w h M y + per w h M (lst w y) := by
  rw [← bg_s hl]
  have hn : nl w h M (y + 1) = nl w h M y + 1 := nl_s hl
  -- from y + 1 on, up to the next leader, nothing is counted
  have key : ∀ d s, s + d = 4 * w * h → lbeg w h M (nl w h M s) = bg w h M s := by
    intro d
    induction d with
    | zero => intro s hs; rw [Nat.add_zero] at hs; rw [hs]; exact lbeg_end
    | succ d ih =>
      intro s hs
      by_cases hq : lead w h M s
      · exact lbeg_at (by omega) hq
      · rw [← nl_n hq, ← bg_n hq]; exact ih (s + 1) (by omega)
  rw [← hn]
  exact key (4 * w * h - (y + 1)) (y + 1) (by omega)
theorem wkf_at {y k : Nat} (hl : lead w h M y) (hk : k < per w h M (lst w y)) : ∀ s, y < s → wkf w h M s (bg w h M y + k) = sn w (lt w h M k (lst w y)) := by
  intro s
  induction s with
  | zero => intro hy; exact absurd hy (by omega)
  | succ s ih =>
    intro hy
    by_cases he : y = s
    · subst he
      simp [wkf, pb_t hl]
    · have h1 := bg_mono (w := w) (h := h) (M := M) (show y + 1 ≤ s by omega)
      rw [bg_s hl] at h1
      have : ¬ bg w h M s ≤ bg w h M y + k := by omega
      simp only [wkf, this, and_false, if_false]
      exact ih (by omega)
theorem bg_has {s : Nat} : ∀ p, p < bg w h M s → ∃ y k, y < s ∧ lead w h M y ∧ k < per w h M (lst w y) ∧ p = bg w h M y + k := by
  induction s with
  | zero => intro p hp; exact absurd hp (by simp [bg])
  | succ s ih =>
    intro p hp
    by_cases hq : lead w h M s
    · rw [bg_s hq] at hp
      by_cases he : bg w h M s ≤ p
      · exact ⟨s, p - bg w h M s, by omega, hq, by omega, by omega⟩
      · obtain ⟨y, k, a, b, c, d⟩ := ih p (by omega); exact ⟨y, k, by omega, b, c, d⟩
    · rw [bg_n hq] at hp
      obtain ⟨y, k, a, b, c, d⟩ := ih p hp; exact ⟨y, k, by omega, b, c, d⟩
end LINESD
/-- the rows of lines, read -/
def LX (w h : Nat) (M : Nat → Nat → Nat) (I : am_I) (A1 A2 A3 A4 : Nat) : Prop :=
  (∀ x, x < 4 * w * h → I A1 x = nI (lnum w h M x) ∧ I A2 x = nI (lplc w h M x)) ∧ (∀ p, p < lall w h M → I A3 p = nI (lwk w h M p)) ∧ ∀ l, l ≤ lcnt w h M → I A4 l = nI (lbeg w h M l)
theorem LX_of {w h : Nat} {M : Nat → Nat → Nat} {I : am_I} {A1 A2 A3 A4 : Nat} (w1 : 1 ≤ w) (hF : LF w h M I A1 A2 A3 A4 (4 * w * h)) (hE : I A4 (nl w h M (4 * w * h)) = nI (bg w h M (4 * w * h))) : LX w h M I A1 A2 A3 A4 := by
  refine ⟨fun x hx => ?_, fun p hp => ?_, fun l hl => ?_⟩
  · obtain ⟨a, b, c⟩ := ldr_spec (M := M) w1 hx
    obtain ⟨d, e⟩ := lplc_spec (M := M) w1 hx
    obtain ⟨f, g, _⟩ := hF.2.1 _ _ a b d
    rw [e] at f g
    exact ⟨f, g⟩
  · obtain ⟨y, k, a, b, c, d⟩ := bg_has p hp
    rw [d, lwk, wkf_at b c _ a]
    exact (hF.2.1 y k a b c).2.2
  · rcases Nat.lt_or_ge l (lcnt w h M) with q | q
    · obtain ⟨y, a, b, c⟩ := nl_has l q
      rw [← c, lbeg_at a b]
      exact hF.2.2 y a b
    · rw [show l = lcnt w h M by omega, lbeg_end]
      exact hE
theorem LX.moved {w h : Nat} {M : Nat → Nat → Nat} {I I' : am_I} {A1 A2 A3 A4 : Nat} (hL : LX w h M I A1 A2 A3 A4) (e1 : I' A1 = I A1) (e2 : I' A2 = I A2) (e3 : I' A3 = I A3) (e4 : I' A4 = I A4) : LX w h M I' A1 A2 A3 A4 := ⟨fun x hx => by rw [e1, e2]; exact hL.1 x hx, fun p hp => by rw [e3]; exact hL.2.1 p hp, fun l hl => by rw [e4]; exact hL.2.2 l hl⟩
theorem lbeg_ok {w h : Nat} {M : Nat → Nat → Nat} (w1 : 1 ≤ w) {l : Nat} (hl : l < lcnt w h M) : lbeg w h M l < lbeg w h M (l + 1) ∧ lbeg w h M (l + 1) ≤ lall w h M ∧ lall w h M ≤ 4 * w * h ∧ lcnt w h M ≤ 4 * w * h := by
  obtain ⟨y, a, b, c⟩ := nl_has l hl
  have hp := (per_spec (M := M) (lst_inv (h := h) w1 a)).1.1
  have h1 := bg_mono (w := w) (h := h) (M := M) (show y + 1 ≤ 4 * w * h by omega)
  have h2 := bg_le (w := w) (h := h) (M := M) w1 (Nat.le_refl _)
  have h3 := nl_le_bg (w := w) (h := h) (M := M) w1 (Nat.le_refl (4 * w * h))
  rw [← c, lbeg_at a b, lbeg_next a b]
  rw [bg_s b] at h1
  unfold lall lcnt
  omega
theorem lcnt_le {w h : Nat} {M : Nat → Nat → Nat} (w1 : 1 ≤ w) : lcnt w h M ≤ 4 * w * h ∧ lall w h M ≤ 4 * w * h := by
  have h2 := bg_le (w := w) (h := h) (M := M) w1 (Nat.le_refl _)
  have h3 := nl_le_bg (w := w) (h := h) (M := M) w1 (Nat.le_refl (4 * w * h))
  unfold lall lcnt
  omega
theorem lplc_lt {w h : Nat} {M : Nat → Nat → Nat} (w1 : 1 ≤ w) {x : Nat} (hx : x < 4 * w * h) : lplc w h M x < 4 * w * h := by
  have h1 := (lplc_spec (M := M) w1 hx).1
  obtain ⟨a, b, c⟩ := ldr_spec (M := M) w1 hx
  have h2 := (per_spec (M := M) (lst_inv (h := h) w1 a)).1.2.1
  omega
