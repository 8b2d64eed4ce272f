/-! squares by their numbers; the line from a square, that one to the right; leaders: squares that lie on no earlier square's line -/
def sn (w : Nat) (s : lS) : Nat := 2 * w * s.2.1 + s.1
def lst (w x : Nat) : lS := (x % (2 * w), x / (2 * w), true, decide ((x % (2 * w) + x / (2 * w)) % 2 = 1))
section LINESB
variable {w h : Nat} {M : Nat → Nat → Nat}
theorem sn_lt {s : lS} (hs : lInv w h s) : sn w s < 4 * w * h := by
  have h1 := hs.1
  have h2 := hs.2.1
  have : 2 * w * (s.2.1 + 1) ≤ 2 * w * (2 * h) := Nat.mul_le_mul_left _ h2
  have e : 2 * w * (2 * h) = 4 * w * h := by rw [show 4 * w * h = 2 * 2 * w * h by rfl]; simp only [Nat.mul_assoc, Nat.mul_left_comm, Nat.mul_comm]
  rw [Nat.mul_add] at this
  unfold sn
  omega
theorem sn_inj {s t : lS} (hs : lInv w h s) (ht : lInv w h t) (e : sn w s = sn w t) : s.1 = t.1 ∧ s.2.1 = t.2.1 := by
  have h1 := hs.1
  have h2 := ht.1
  unfold sn at e
  have e1 : (2 * w * s.2.1 + s.1) / (2 * w) = s.2.1 := by rw [Nat.mul_add_div (by omega), Nat.div_eq_of_lt h1]; rfl
  have e2 : (2 * w * t.2.1 + t.1) / (2 * w) = t.2.1 := by rw [Nat.mul_add_div (by omega), Nat.div_eq_of_lt h2]; rfl
  have hb : s.2.1 = t.2.1 := by rw [← e1, ← e2, e]
  rw [hb] at e
  omega
theorem lst_inv {x : Nat} (w1 : 1 ≤ w) (hx : x < 4 * w * h) : lInv w h (lst w x) := by
  refine ⟨Nat.mod_lt _ (by omega), ?_, ?_⟩
  · show x / (2 * w) < 2 * h
    rw [Nat.div_lt_iff_lt_mul (by omega)]
    have e : 2 * h * (2 * w) = 4 * w * h := by rw [show 4 * w * h = 2 * 2 * w * h by rfl]; simp only [Nat.mul_assoc, Nat.mul_left_comm, Nat.mul_comm]
    omega
  · show decide ((x % (2 * w) + x / (2 * w)) % 2 = 1) = (decide ((x % (2 * w) + x / (2 * w)) % 2 = 1) == true)
    cases decide ((x % (2 * w) + x / (2 * w)) % 2 = 1) <;> rfl
theorem sn_lst (x : Nat) : sn w (lst w x) = x := Nat.div_add_mod x (2 * w)
theorem per_ex {s : lS} (hs : lInv w h s) : ∃ T, (0 < T ∧ T ≤ 4 * w * h ∧ lt w h M T s = s) ∧ ∀ j, 0 < j → j < T → lt w h M j s ≠ s := by
  obtain ⟨T, h1, h2, h3⟩ := lt_close (M := M) hs
  obtain ⟨k, hk, hl⟩ := pk_least (fun T => 0 < T ∧ lt w h M T s = s) ⟨T, h1, h3⟩
  refine ⟨k, ⟨hk.1, ?_, hk.2⟩, fun j a b c => hl j b ⟨a, c⟩⟩
  apply Nat.le_trans _ h2
  exact Nat.le_of_not_lt (fun q => hl T q ⟨h1, h3⟩)
noncomputable def per (w h : Nat) (M : Nat → Nat → Nat) (s : lS) : Nat := @dite _ (∃ T, (0 < T ∧ T ≤ 4 * w * h ∧ lt w h M T s = s) ∧ ∀ j, 0 < j → j < T → lt w h M j s ≠ s) (Classical.propDecidable _) (fun h => Classical.choose h) (fun _ => 0)
theorem per_spec {s : lS} (hs : lInv w h s) : (0 < per w h M s ∧ per w h M s ≤ 4 * w * h ∧ lt w h M (per w h M s) s = s) ∧ ∀ j, 0 < j → j < per w h M s → lt w h M j s ≠ s := by
  have hx := per_ex (M := M) hs
  have e : per w h M s = Classical.choose hx := dif_pos hx
  rw [e]
  exact Classical.choose_spec hx
theorem lt_mul {s : lS} {T : Nat} (hT : lt w h M T s = s) (m : Nat) : lt w h M (T * m) s = s := by
  induction m with
  | zero => rfl
  | succ m ih => rw [Nat.mul_succ, Nat.add_comm, lt_add, ih, hT]
theorem lt_dist {s : lS} (hs : lInv w h s) {k l : Nat} (hk : k < per w h M s) (hl : l < per w h M s) (e : sn w (lt w h M k s) = sn w (lt w h M l s)) : k = l := by
  have hP := per_spec (M := M) hs
  obtain ⟨h1, h2⟩ := sn_inj (lt_inv hs k) (lt_inv hs l) e
  have e2 := lt_sq hs h1 h2
  rcases Nat.lt_trichotomy k l with hq | hq | hq
  · exfalso
    rw [show l = k + (l - k) by omega, lt_add] at e2
    exact hP.2 (l - k) (by omega) (by omega) (lt_inj hs (lt_inv hs _) k e2).symm
  · exact hq
  · exfalso
    rw [show k = l + (k - l) by omega, lt_add] at e2
    exact hP.2 (k - l) (by omega) (by omega) (lt_inj (lt_inv hs _) hs l e2)
def on (w h : Nat) (M : Nat → Nat → Nat) (x y : Nat) : Prop := ∃ k, sn w (lt w h M k (lst w x)) = y
theorem on_lt {x y : Nat} (w1 : 1 ≤ w) (hx : x < 4 * w * h) (ho : on w h M x y) : y < 4 * w * h := by
  obtain ⟨k, e⟩ := ho
  rw [← e]
  exact sn_lt (lt_inv (lst_inv w1 hx) k)
theorem on_refl (x : Nat) : on w h M x x := ⟨0, sn_lst x⟩
/-- a place that is passed is passed in the first round -/
theorem on_per {x y : Nat} (w1 : 1 ≤ w) (hx : x < 4 * w * h) (ho : on w h M x y) : ∃ k, k < per w h M (lst w x) ∧ sn w (lt w h M k (lst w x)) = y := by
  obtain ⟨k, e⟩ := ho
  have hP := (per_spec (M := M) (lst_inv (h := h) w1 hx)).1
  refine ⟨k % per w h M (lst w x), Nat.mod_lt _ hP.1, ?_⟩
  rw [← e]
  conv => rhs; rw [← Nat.div_add_mod k (per w h M (lst w x)), Nat.add_comm, lt_add, lt_mul hP.2.2]
theorem on_st {x y k : Nat} (w1 : 1 ≤ w) (hx : x < 4 * w * h) (e : sn w (lt w h M k (lst w x)) = y) : lt w h M k (lst w x) = lst w y ∨ lt w h M k (lst w x) = lV (lst w y) := by
  have hy : y < 4 * w * h := on_lt w1 hx ⟨k, e⟩
  obtain ⟨a, b⟩ := sn_inj (lt_inv (M := M) (lst_inv w1 hx) k) (lst_inv (h := h) w1 hy) (e.trans (sn_lst y).symm)
  exact sq_same (lt_inv (lst_inv w1 hx) k) (lst_inv w1 hy) a b
theorem sn_V (s : lS) : sn w (lV s) = sn w s := rfl
theorem lt_pre {s : lS} (hs : lInv w h s) (l : Nat) : ∃ n, ∀ t, lt w h M l s = t → lt w h M n t = s := by
  have hP := (per_spec (M := M) hs).1
  refine ⟨per w h M s * l - l, fun t e => ?_⟩
  have h1 : l ≤ per w h M s * l := Nat.le_mul_of_pos_left l hP.1
  rw [← e, ← lt_add, Nat.sub_add_cancel h1, lt_mul hP.2.2]
theorem on_sym {x y : Nat} (w1 : 1 ≤ w) (hx : x < 4 * w * h) (ho : on w h M x y) : on w h M y x := by
  have hy := on_lt w1 hx ho
  obtain ⟨k, e⟩ := ho
  rcases on_st w1 hx e with q | q
  · obtain ⟨n, hn⟩ := lt_pre (M := M) (lst_inv (h := h) w1 hx) k
    exact ⟨n, by rw [hn _ q, sn_lst]⟩
  · have hb := lt_back (M := M) (lst_inv (h := h) w1 hx) k
    rw [q, lV_V] at hb
    exact ⟨k, by rw [hb, sn_V, sn_lst]⟩
theorem on_trans {x y z : Nat} (w1 : 1 ≤ w) (hx : x < 4 * w * h) (h1 : on w h M x y) (h2 : on w h M y z) : on w h M x z := by
  have hy := on_lt w1 hx h1
  obtain ⟨k, e⟩ := h1
  obtain ⟨l, e2⟩ := h2
  rcases on_st w1 hx e with q | q
  · exact ⟨l + k, by rw [lt_add, q, e2]⟩
  · have hu := lt_inv (M := M) (lst_inv (h := h) w1 hy) l
    have hb := lt_back (M := M) (lst_inv (h := h) w1 hy) l
    obtain ⟨n, hn⟩ := lt_pre (M := M) (lV_inv hu) l
    have := hn _ hb
    rw [← q, ← lt_add] at this
    exact ⟨n + k, by rw [this, sn_V, e2]⟩
def lead (w h : Nat) (M : Nat → Nat → Nat) (x : Nat) : Prop := ∀ y, y < x → ¬ on w h M y x
def vis (w h : Nat) (M : Nat → Nat → Nat) (s x : Nat) : Prop := ∃ y, y < s ∧ on w h M y x
theorem vis_lead {s x : Nat} (w1 : 1 ≤ w) (hs : s ≤ 4 * w * h) (hv : vis w h M s x) : ∃ y, y < s ∧ lead w h M y ∧ on w h M y x := by
  obtain ⟨y0, hy0⟩ := hv
  obtain ⟨y, hy, hl⟩ := pk_least (fun y => y < s ∧ on w h M y x) ⟨y0, hy0⟩
  exact ⟨y, hy.1, fun z hz ho => hl z hz ⟨by omega, on_trans w1 (by omega) ho hy.2⟩, hy.2⟩
theorem lead_uniq {x y z : Nat} (w1 : 1 ≤ w) (hx : x < 4 * w * h) (hy : y < 4 * w * h) (h1 : lead w h M x) (h2 : lead w h M y) (o1 : on w h M x z) (o2 : on w h M y z) : x = y := by
  have a : on w h M x y := on_trans w1 hx o1 (on_sym w1 hy o2)
  have b : on w h M y x := on_sym w1 hx a
  rcases Nat.lt_trichotomy x y with q | q | q
  · exact absurd a (h2 x q)
  · exact q
  · exact absurd b (h1 y q)
theorem lead_vis {s : Nat} : lead w h M s ↔ ¬ vis w h M s s := ⟨fun hl ⟨y, hy, ho⟩ => hl y hy ho, fun hv y hy ho => hv ⟨y, hy, ho⟩⟩
theorem vis_succ {s x : Nat} : vis w h M (s + 1) x ↔ vis w h M s x ∨ on w h M s x := by
  constructor
  · rintro ⟨y, hy, ho⟩
    rcases Nat.lt_succ_iff_lt_or_eq.mp hy with q | q
    · exact Or.inl ⟨y, q, ho⟩
    · subst q; exact Or.inr ho
  · rintro (⟨y, hy, ho⟩ | ho)
    · exact ⟨y, by omega, ho⟩
    · exact ⟨s, by omega, ho⟩
theorem vis_skip {s x : Nat} (w1 : 1 ≤ w) (hs : s < 4 * w * h) (hl : ¬ lead w h M s) : vis w h M (s + 1) x ↔ vis w h M s x := by
  rw [vis_succ]
  constructor
  · rintro (q | q)
    · exact q
    · have hv : vis w h M s s := by
        apply Classical.byContradiction
        intro hn
        exact hl (lead_vis.mpr hn)
      obtain ⟨y, hy, ho⟩ := hv
      exact ⟨y, hy, on_trans w1 (by omega) ho q⟩
  · exact Or.inl
/-- a leader's line is all new -/
theorem lead_new {s x : Nat} (w1 : 1 ≤ w) (hs : s < 4 * w * h) (hl : lead w h M s) (ho : on w h M s x) : ¬ vis w h M s x := by
  rintro ⟨y, hy, hq⟩
  exact hl y hy (on_trans w1 (by omega) hq (on_sym w1 hs ho))
/-- how many leaders, how many squares on their lines, below s -/
noncomputable def nl (w h : Nat) (M : Nat → Nat → Nat) : Nat → Nat
  | 0 => 0
  | s + 1 => nl w h M s + (if pb (lead w h M s) = true then 1 else 0)
noncomputable def bg (w h : Nat) (M : Nat → Nat → Nat) : Nat → Nat
  | 0 => 0
  | s + 1 => bg w h M s + (if pb (lead w h M s) = true then per w h M (lst w s) else 0)
theorem nl_s {s : Nat} (hl : lead w h M s) : nl w h M (s + 1) = nl w h M s + 1 := by simp [nl, pb_t hl]
theorem nl_n {s : Nat} (hl : ¬ lead w h M s) : nl w h M (s + 1) = nl w h M s := by simp [nl, pb_f hl]
theorem bg_s {s : Nat} (hl : lead w h M s) : bg w h M (s + 1) = bg w h M s + per w h M (lst w s) := by simp [bg, pb_t hl]
theorem bg_n {s : Nat} (hl : ¬ lead w h M s) : bg w h M (s + 1) = bg w h M s := by simp [bg, pb_f hl]
theorem nl_mono {s t : Nat} (hst : s ≤ t) : nl w h M s ≤ nl w h M t := by
  induction t with
  | zero => rw [show s = 0 by omega]; exact Nat.le_refl _
  | succ t ih =>
    rcases Nat.lt_or_ge s (t + 1) with q | q
    · have := ih (by omega); simp only [nl]; omega
    · rw [show s = t + 1 by omega]; exact Nat.le_refl _
theorem bg_mono {s t : Nat} (hst : s ≤ t) : bg w h M s ≤ bg w h M t := by
  induction t with
  | zero => rw [show s = 0 by omega]; exact Nat.le_refl _
  | succ t ih =>
    rcases Nat.lt_or_ge s (t + 1) with q | q
    · have := ih (by omega); simp only [bg]; omega
    · rw [show s = t + 1 by omega]; exact Nat.le_refl _
theorem nl_lead_lt {s t : Nat} (hl : lead w h M s) (hst : s < t) : nl w h M s < nl w h M t := by
  have h1 := nl_mono (w := w) (h := h) (M := M) (show s + 1 ≤ t by omega)
  rw [nl_s hl] at h1
  omega
theorem nl_inj {s t : Nat} (hs : lead w h M s) (ht : lead w h M t) (e : nl w h M s = nl w h M t) : s = t := by
  rcases Nat.lt_trichotomy s t with q | q | q
  · have := nl_lead_lt hs q; omega
  · exact q
  · have := nl_lead_lt ht q; omega
theorem nl_le_bg {s : Nat} (w1 : 1 ≤ w) (hs : s ≤ 4 * w * h) : nl w h M s ≤ bg w h M s := by
  induction s with
  | zero => exact Nat.le_refl _
  | succ s ih =>
    have := ih (by omega)
    by_cases hl : lead w h M s
    · rw [nl_s hl, bg_s hl]
      have := (per_spec (M := M) (lst_inv (h := h) w1 (show s < 4 * w * h by omega))).1.1
      omega
    · rw [nl_n hl, bg_n hl]; exact this
/-- all walks, one behind the other -/
noncomputable def wkf (w h : Nat) (M : Nat → Nat → Nat) : Nat → Nat → Nat
  | 0, _ => 0
  | s + 1, p => if pb (lead w h M s) = true ∧ bg w h M s ≤ p then sn w (lt w h M (p - bg w h M s) (lst w s)) else wkf w h M s p
theorem wkf_vis {s : Nat} (w1 : 1 ≤ w) (hs : s ≤ 4 * w * h) : ∀ p, p < bg w h M s → vis w h M s (wkf w h M s p) ∧ wkf w h M s p < 4 * w * h := by
  induction s with
  | zero => intro p hp; exact absurd hp (by simp [bg])
  | succ s ih =>
    intro p hp
    by_cases hl : lead w h M s
    · rw [bg_s hl] at hp
      by_cases hb : bg w h M s ≤ p
      · have e : wkf w h M (s + 1) p = sn w (lt w h M (p - bg w h M s) (lst w s)) := by simp [wkf, pb_t hl, hb]
        rw [e]
        exact ⟨⟨s, by omega, ⟨_, rfl⟩⟩, sn_lt (lt_inv (lst_inv w1 (by omega)) _)⟩
      · have e : wkf w h M (s + 1) p = wkf w h M s p := by simp [wkf, hb]
        rw [e]
        obtain ⟨a, c⟩ := ih (by omega) p (by omega)
        exact ⟨vis_succ.mpr (Or.inl a), c⟩
    · rw [bg_n hl] at hp
      have e : wkf w h M (s + 1) p = wkf w h M s p := by simp [wkf, pb_f hl]
      rw [e]
      obtain ⟨a, c⟩ := ih (by omega) p hp
      exact ⟨vis_succ.mpr (Or.inl a), c⟩
theorem wkf_inj {s : Nat} (w1 : 1 ≤ w) (hs : s ≤ 4 * w * h) : ∀ p q, p < bg w h M s → q < bg w h M s → wkf w h M s p = wkf w h M s q → p = q := by
  induction s with
  | zero => intro p q hp; exact absurd hp (by simp [bg])
  | succ s ih =>
    intro p q hp hq e
    by_cases hl : lead w h M s
    · rw [bg_s hl] at hp hq
      have E : ∀ p, bg w h M s ≤ p → wkf w h M (s + 1) p = sn w (lt w h M (p - bg w h M s) (lst w s)) := fun p hb => by simp [wkf, pb_t hl, hb]
      have E' : ∀ p, ¬ bg w h M s ≤ p → wkf w h M (s + 1) p = wkf w h M s p := fun p hb => by simp [wkf, hb]
      by_cases hb : bg w h M s ≤ p <;> by_cases hc : bg w h M s ≤ q
      · rw [E p hb, E q hc] at e
        have := lt_dist (lst_inv (h := h) w1 (by omega)) (by omega) (by omega) e
        omega
      · rw [E p hb, E' q hc] at e
        exact absurd (e ▸ (wkf_vis w1 (by omega) q (by omega)).1) (lead_new w1 (by omega) hl ⟨_, rfl⟩)
      · rw [E' p hb, E q hc] at e
        exact absurd (e ▸ (wkf_vis w1 (by omega) p (by omega)).1) (lead_new w1 (by omega) hl ⟨_, rfl⟩)
      · rw [E' p hb, E' q hc] at e
        exact ih (by omega) p q (by omega) (by omega) e
    · rw [bg_n hl] at hp hq
      have e' : ∀ p, wkf w h M (s + 1) p = wkf w h M s p := fun p => by simp [wkf, pb_f hl]
      rw [e', e'] at e
      exact ih (by omega) p q hp hq e
theorem bg_le {s : Nat} (w1 : 1 ≤ w) (hs : s ≤ 4 * w * h) : bg w h M s ≤ 4 * w * h := by
  apply Classical.byContradiction
  intro hn
  obtain ⟨k, l, h1, h2, h3⟩ := pigeon (4 * w * h) (wkf w h M s) (fun k hk => (wkf_vis w1 hs k (by omega)).2)
  have := wkf_inj w1 hs k l (by omega) (by omega) h3
  omega
/-- at the end all squares lie on the lines -/
theorem vis_all {x : Nat} (hx : x < 4 * w * h) : vis w h M (4 * w * h) x := ⟨x, hx, on_refl x⟩
end LINESB
/-- what stands in the rows of lines once the squares below s are through: line and place of each square, the walks, where each begins -/
def LF (w h : Nat) (M : Nat → Nat → Nat) (I : am_I) (A1 A2 A3 A4 s : Nat) : Prop :=
  (∀ x, x < 4 * w * h → ¬ vis w h M s x → I A1 x = -1) ∧
  (∀ y k, y < s → lead w h M y → k < per w h M (lst w y) → I A1 (sn w (lt w h M k (lst w y))) = nI (nl w h M y) ∧ I A2 (sn w (lt w h M k (lst w y))) = nI k ∧ I A3 (bg w h M y + k) = nI (sn w (lt w h M k (lst w y)))) ∧
  (∀ y, y < s → lead w h M y → I A4 (nl w h M y) = nI (bg w h M y))
