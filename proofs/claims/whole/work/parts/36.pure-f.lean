/-! joining: relation and chosen points -/
def jMg (R : Nat → Nat → Prop) (a b : Nat) : Nat → Nat → Prop := fun x y => R x y ∨ (R x a ∧ R b y) ∨ (R x b ∧ R a y)
noncomputable def jStep (w h : Nat) (M P : Nat → Nat → Nat) (σ : (Nat → Nat → Prop) × List (Nat × Nat)) (p : Nat × Nat) : (Nat → Nat → Prop) × List (Nat × Nat) :=
  if pb (P p.1 p.2 = 0 ∧ ¬ σ.1 (lnum w h M (ulS w p.1 p.2)) (lnum w h M (st1 w M p.1 p.2))) = true then (jMg σ.1 (lnum w h M (ulS w p.1 p.2)) (lnum w h M (st1 w M p.1 p.2)), σ.2 ++ [p]) else σ
noncomputable def jEnd (w h : Nat) (M P : Nat → Nat → Nat) : (Nat → Nat → Prop) × List (Nat × Nat) := List.foldl (jStep w h M P) ((fun x y => x = y), []) (pts w h)
noncomputable def jC (w h : Nat) (M P : Nat → Nat → Nat) : List (Nat × Nat) := (jEnd w h M P).2
theorem jStep_t {w h : Nat} {M P : Nat → Nat → Nat} {σ : (Nat → Nat → Prop) × List (Nat × Nat)} {p : Nat × Nat} (h1 : P p.1 p.2 = 0) (h2 : ¬ σ.1 (lnum w h M (ulS w p.1 p.2)) (lnum w h M (st1 w M p.1 p.2))) : jStep w h M P σ p = (jMg σ.1 (lnum w h M (ulS w p.1 p.2)) (lnum w h M (st1 w M p.1 p.2)), σ.2 ++ [p]) := by
  unfold jStep; rw [pb_t ⟨h1, h2⟩, if_pos rfl]
theorem jStep_f {w h : Nat} {M P : Nat → Nat → Nat} {σ : (Nat → Nat → Prop) × List (Nat × Nat)} {p : Nat × Nat} (h1 : ¬ P p.1 p.2 = 0 ∨ σ.1 (lnum w h M (ulS w p.1 p.2)) (lnum w h M (st1 w M p.1 p.2))) : jStep w h M P σ p = σ := by
  unfold jStep; rw [pb_f (fun q => h1.elim (fun a => a q.1) (fun a => q.2 a)), if_neg (by decide)]
theorem jStep_len {w h : Nat} {M P : Nat → Nat → Nat} (σ : (Nat → Nat → Prop) × List (Nat × Nat)) (p : Nat × Nat) : (jStep w h M P σ p).2.length ≤ σ.2.length + 1 := by
  unfold jStep; split
  · simp
  · omega
theorem jFold_in {w h : Nat} {M P : Nat → Nat → Nat} : ∀ (l : List (Nat × Nat)) (σ : (Nat → Nat → Prop) × List (Nat × Nat)), (∀ p ∈ l, nInner w h p.1 p.2 = true) → (∀ p ∈ σ.2, nInner w h p.1 p.2 = true) → ∀ p ∈ (List.foldl (jStep w h M P) σ l).2, nInner w h p.1 p.2 = true := by
  intro l
  induction l with
  | nil => intro σ _ h2; exact h2
  | cons q l ih =>
    intro σ h1 h2
    refine ih _ (fun p hp => h1 p (List.mem_cons_of_mem _ hp)) (fun p hp => ?_)
    unfold jStep at hp
    split at hp
    · rcases List.mem_append.mp hp with hp | hp
      · exact h2 p hp
      · rw [List.mem_singleton.mp hp]; exact h1 q List.mem_cons_self
    · exact h2 p hp
theorem jC_in {w h : Nat} {M P : Nat → Nat → Nat} {p : Nat × Nat} (hp : p ∈ jC w h M P) : nInner w h p.1 p.2 = true :=
  jFold_in (pts w h) _ (fun p hp => pts_mem.mp hp) (fun p hp => absurd hp List.not_mem_nil) p hp
theorem jFold_len {w h : Nat} {M P : Nat → Nat → Nat} : ∀ (l : List (Nat × Nat)) (σ : (Nat → Nat → Prop) × List (Nat × Nat)), (List.foldl (jStep w h M P) σ l).2.length ≤ σ.2.length + l.length := by
  intro l
  induction l with
  | nil => intro σ; simp
  | cons q l ih =>
    intro σ
    have h1 := ih (jStep w h M P σ q)
    have h2 := jStep_len (w := w) (h := h) (M := M) (P := P) σ q
    simp only [List.foldl_cons, List.length_cons]
    omega
theorem rowP_len (w j : Nat) : ∀ n i, 2 * w - i ≤ n → 2 * (rowP w j i).length ≤ 2 * w - i + 1 := by
  intro n
  induction n with
  | zero => intro i hn; rw [rowP_n (by omega)]; simp
  | succ n ih =>
    intro i hn
    by_cases hi : i < 2 * w
    · rw [rowP_c hi, List.length_cons]
      have := ih (i + 2) (by omega)
      omega
    · rw [rowP_n (by omega)]; simp
theorem rowsP_len (w h : Nat) : ∀ n j, 2 * h - j ≤ n → (rowsP w h j).length ≤ w * (2 * h - j) := by
  intro n
  induction n with
  | zero => intro j hn; rw [rowsP_n (by omega)]; simp
  | succ n ih =>
    intro j hn
    by_cases hj : j < 2 * h
    · rw [rowsP_c hj, List.length_append]
      have h1 := ih (j + 1) (by omega)
      have h2 := rowP_len w j _ (1 + j % 2) (Nat.le_refl _)
      have h3 : w * (2 * h - j) = w * (2 * h - (j + 1)) + w := by rw [show 2 * h - j = (2 * h - (j + 1)) + 1 by omega, Nat.mul_add, Nat.mul_one]
      omega
    · rw [rowsP_n (by omega)]; simp
theorem pts_len {w h : Nat} (w8 : w ≤ 8) (h8 : h ≤ 8) : (pts w h).length ≤ 120 := by
  have h1 := rowsP_len w h _ 1 (Nat.le_refl _)
  have h2 : w * (2 * h - 1) ≤ 8 * 15 := Nat.mul_le_mul w8 (by omega)
  unfold pts
  omega
theorem jC_len {w h : Nat} {M P : Nat → Nat → Nat} (w8 : w ≤ 8) (h8 : h ≤ 8) : (jC w h M P).length ≤ 120 := by
  have h1 := jFold_len (w := w) (h := h) (M := M) (P := P) (pts w h) ((fun x y => x = y), [])
  have h2 := pts_len w8 h8
  unfold jC jEnd
  simp only [List.length_nil] at h1
  omega
/-! the class's groups -/
theorem gr_mg {R : Nat → Nat → Prop} {g : Nat → Int32} {n a b : Nat} (hG : ∀ x y, x < n → y < n → (R x y ↔ g x = g y)) (ha : a < n) (hb : b < n) : ∀ x y, x < n → y < n → (jMg R a b x y ↔ (if g x = g b then g a else g x) = (if g y = g b then g a else g y)) := by
  intro x y hx hy
  unfold jMg
  rw [hG x y hx hy, hG x a hx ha, hG b y hb hy, hG x b hx hb, hG a y ha hy]
  by_cases h1 : g x = g b
  · by_cases h2 : g y = g b
    · rw [if_pos h1, if_pos h2, h1, h2]; simp
    · rw [if_pos h1, if_neg h2, h1]
      constructor
      · rintro (q | ⟨q, q2⟩ | ⟨q, q2⟩)
        · exact absurd q.symm h2
        · exact absurd q2.symm h2
        · exact q2
      · intro q; exact Or.inr (Or.inr ⟨rfl, q⟩)
  · by_cases h2 : g y = g b
    · rw [if_neg h1, if_pos h2, h2]
      constructor
      · rintro (q | ⟨q, q2⟩ | ⟨q, q2⟩)
        · exact absurd q h1
        · exact q
        · exact absurd q h1
      · intro q; exact Or.inr (Or.inl ⟨q, rfl⟩)
    · rw [if_neg h1, if_neg h2]
      constructor
      · rintro (q | ⟨q, q2⟩ | ⟨q, q2⟩)
        · exact q
        · exact absurd q2.symm h2
        · exact absurd q h1
      · intro q; exact Or.inl q
/-! the reference's trees -/
def HR (R : Nat → Nat → Prop) (hp ρ δ : Nat → Nat) (n : Nat) : Prop := (∀ x, x < n → hp x < n ∧ ρ x < n ∧ hp (ρ x) = ρ x ∧ ρ (hp x) = ρ x ∧ (hp x ≠ x → δ (hp x) < δ x) ∧ (hp x = x → ρ x = x)) ∧ ∀ x y, x < n → y < n → (R x y ↔ ρ x = ρ y)
theorem HR_0 (n : Nat) : HR (fun x y => x = y) (fun x => x) (fun x => x) (fun _ => 0) n := ⟨fun x hx => ⟨hx, hx, rfl, rfl, fun q => absurd rfl q, fun _ => rfl⟩, fun x y _ _ => Iff.rfl⟩
theorem HR_mg {R : Nat → Nat → Prop} {hp ρ δ : Nat → Nat} {n a b : Nat} (hH : HR R hp ρ δ n) (ha : a < n) (hb : b < n) (hne : ρ a ≠ ρ b) :
    HR (jMg R a b) (fun x => if x = ρ a then ρ b else hp x) (fun x => if ρ x = ρ a then ρ b else ρ x) (fun x => if ρ x = ρ a then δ x + δ (ρ b) + 1 else δ x) n := by
  obtain ⟨h1, h2⟩ := hH
  obtain ⟨_, a2, a3, _, _, _⟩ := h1 a ha
  obtain ⟨_, b2, b3, _, _, _⟩ := h1 b hb
  have ra : ρ (ρ a) = ρ a := (h1 _ a2).2.2.2.2.2 a3
  have rb : ρ (ρ b) = ρ b := (h1 _ b2).2.2.2.2.2 b3
  refine ⟨fun x hx => ?_, fun x y hx hy => ?_⟩
  · obtain ⟨x1, x2, x3, x4, x5, x6⟩ := h1 x hx
    have rx : ρ (ρ x) = ρ x := (h1 _ x2).2.2.2.2.2 x3
    refine ⟨?_, ?_, ?_, ?_, ?_, ?_⟩
    · show (if x = ρ a then ρ b else hp x) < n
      split
      · exact b2
      · exact x1
    · show (if ρ x = ρ a then ρ b else ρ x) < n
      split
      · exact b2
      · exact x2
    · show (if (if ρ x = ρ a then ρ b else ρ x) = ρ a then ρ b else hp (if ρ x = ρ a then ρ b else ρ x)) = if ρ x = ρ a then ρ b else ρ x
      by_cases q : ρ x = ρ a
      · rw [if_pos q, if_neg (fun e => hne e.symm)]; exact b3
      · rw [if_neg q, if_neg q]; exact x3
    · show (if ρ (if x = ρ a then ρ b else hp x) = ρ a then ρ b else ρ (if x = ρ a then ρ b else hp x)) = if ρ x = ρ a then ρ b else ρ x
      by_cases q : x = ρ a
      · rw [if_pos q, rb, if_neg (fun e => hne e.symm), q, ra, if_pos rfl]
      · rw [if_neg q, x4]
    · show (if x = ρ a then ρ b else hp x) ≠ x → (if ρ (if x = ρ a then ρ b else hp x) = ρ a then δ (if x = ρ a then ρ b else hp x) + δ (ρ b) + 1 else δ (if x = ρ a then ρ b else hp x)) < if ρ x = ρ a then δ x + δ (ρ b) + 1 else δ x
      intro hn
      by_cases q : x = ρ a
      · rw [if_pos q, rb, if_neg (fun e => hne e.symm), q, ra, if_pos rfl]; omega
      · rw [if_neg q] at hn ⊢
        rw [x4]
        have := x5 hn
        split <;> omega
    · show (if x = ρ a then ρ b else hp x) = x → (if ρ x = ρ a then ρ b else ρ x) = x
      intro hn
      by_cases q : x = ρ a
      · rw [if_pos q] at hn
        exact absurd (hn.trans q) (fun e => hne e.symm)
      · rw [if_neg q] at hn
        have e := x6 hn
        rw [e, if_neg q]
  · unfold jMg
    show (R x y ∨ (R x a ∧ R b y) ∨ (R x b ∧ R a y)) ↔ (if ρ x = ρ a then ρ b else ρ x) = (if ρ y = ρ a then ρ b else ρ y)
    rw [h2 x y hx hy, h2 x a hx ha, h2 b y hb hy, h2 x b hx hb, h2 a y ha hy]
    by_cases q1 : ρ x = ρ a
    · by_cases q2 : ρ y = ρ a
      · rw [if_pos q1, if_pos q2, q1, q2]; simp
      · rw [if_pos q1, if_neg q2, q1]
        constructor
        · rintro (q | ⟨q, q3⟩ | ⟨q, q3⟩)
          · exact absurd q.symm q2
          · exact q3
          · exact absurd q3.symm q2
        · intro q; exact Or.inr (Or.inl ⟨rfl, q⟩)
    · by_cases q2 : ρ y = ρ a
      · rw [if_neg q1, if_pos q2, q2]
        constructor
        · rintro (q | ⟨q, q3⟩ | ⟨q, q3⟩)
          · exact absurd q q1
          · exact absurd q q1
          · exact q
        · intro q; exact Or.inr (Or.inr ⟨q, rfl⟩)
      · rw [if_neg q1, if_neg q2]
        constructor
        · rintro (q | ⟨q, q3⟩ | ⟨q, q3⟩)
          · exact q
          · exact absurd q q1
          · exact absurd q3.symm q2
        · intro q; exact Or.inl q
/-! one mirror anew -/
def upM (M : Nat → Nat → Nat) (p : Nat × Nat) (v : Nat) : Nat → Nat → Nat := fun i j => if i = p.1 ∧ j = p.2 then v else M i j
theorem okM_up {w h : Nat} {M : Nat → Nat → Nat} (h0 : okM w h M) (p : Nat × Nat) {v : Nat} (hv : v ≤ 2) : okM w h (upM M p v) := by
  intro i j hin
  unfold upM
  split
  · exact hv
  · exact h0 i j hin
theorem isDr_up {I : am_I} {a q w h i j : Nat} {M : Nat → Nat → Nat} (hn : a ≠ q) (w8 : w ≤ 8) (h8 : h ≤ 8) (hd : isDr I a q w h M) (hin : nInner w h i j = true) (v : Nat) : isDr (am_up I q (8 * j + i / 2) (nI v)) a q w h (upM M (i, j) v) := by
  have hb := nIn.mp hin
  refine ⟨by rw [am_up_a _ _ hn]; exact hd.1, by rw [am_up_a _ _ hn]; exact hd.2.1, fun p hp => ?_⟩
  by_cases hk : p = 8 * j + i / 2
  · have hd2 := place_dec (i := i) (j := j) (by omega) (by omega) hk.symm
    rw [hd2.2, hd2.1, hk, am_up_at, show gv w h (upM M (i, j) v) i j = upM M (i, j) v i j from if_pos hin]
    unfold upM
    rw [if_pos ⟨rfl, rfl⟩]
  · rw [am_up_k _ _ hk, hd.2.2 p hp]
    congr 1
    unfold gv upM
    split
    · rw [if_neg]
      rintro ⟨e1, e2⟩
      simp only at e1 e2
      apply hk
      omega
    · rfl
theorem isGr_up {I : am_I} {g w h i j : Nat} {M : Nat → Nat → Nat} (w8 : w ≤ 8) (h8 : h ≤ 8) (hd : isGr I g w h M) (hin : nInner w h i j = true) (v : Nat) : isGr (am_up I 47 (289 * g + 17 * j + i) (nI v)) g w h (upM M (i, j) v) := by
  have hb := nIn.mp hin
  refine ⟨by rw [am_up_a _ _ (by decide)]; exact hd.1, by rw [am_up_a _ _ (by decide)]; exact hd.2.1, fun a b ha hb2 => ?_⟩
  by_cases hk : 289 * g + 17 * b + a = 289 * g + 17 * j + i
  · obtain ⟨e1, e2⟩ := cellg_inj (a := b) (a' := j) ha (by omega) (by omega : 17 * b + a = 17 * j + i)
    subst e1 e2
    rw [am_up_at, show gv w h (upM M (a, b) v) a b = upM M (a, b) v a b from if_pos hin]
    unfold upM
    rw [if_pos ⟨rfl, rfl⟩]
  · rw [am_up_k _ _ hk, hd.2.2 a b ha hb2]
    congr 1
    unfold gv upM
    split
    · rw [if_neg]
      rintro ⟨e1, e2⟩
      simp only at e1 e2
      exact hk (by rw [e1, e2])
    · rfl
theorem gfr_up {I : am_I} {g k : Nat} (hk : k < 289) (v : Int32) : gfr (fun x => x = g) I (am_up I 47 (289 * g + k) v) := by
  refine ⟨fun c _ _ h3 => am_up_a _ _ h3, fun g' hg' => ⟨by rw [am_up_a _ _ (by decide)], by rw [am_up_a _ _ (by decide)], fun x hx => ?_⟩⟩
  rw [am_up_k]
  intro e
  exact hg' (by omega)
def lo (v : Nat) : Nat := if v = 0 then 1 else 0
theorem lo_le (v : Nat) : lo v ≤ 1 := by unfold lo; split <;> omega
theorem lo_n {v : Nat} (hv : v ≤ 2) : (if nI v = 0 then nI 1 else nI 0) = nI (lo v) := by
  unfold lo
  by_cases q : v = 0
  · rw [if_pos ((nzN hv).mpr q), if_pos q]
  · rw [if_neg (fun e => q ((nzN hv).mp e)), if_neg q]
def jLo (M : Nat → Nat → Nat) (p : Nat × Nat) : Nat → Nat → Nat := upM M p (lo (M p.1 p.2))
noncomputable def jM (w h : Nat) (M P : Nat → Nat → Nat) : Nat → Nat → Nat := List.foldl jLo M (jC w h M P)
theorem okM_jf {w h : Nat} : ∀ (l : List (Nat × Nat)) {M : Nat → Nat → Nat}, okM w h M → okM w h (List.foldl jLo M l) := by
  intro l
  induction l with
  | nil => intro M hM; exact hM
  | cons p l ih => intro M hM; exact ih (okM_up hM p (Nat.le_trans (lo_le _) (by decide)))
theorem okM_j {w h : Nat} {M P : Nat → Nat → Nat} (hM : okM w h M) : okM w h (jM w h M P) := okM_jf _ hM
