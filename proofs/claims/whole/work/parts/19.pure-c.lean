/-! the reference's grids -/
def b8 (x : Int32) : Int32 := x.toInt8.toInt32
theorem b8_n {v : Nat} (h : v ≤ 2) : b8 (nI v) = nI v := by
  rcases (show v = 0 ∨ v = 1 ∨ v = 2 by omega) with rfl | rfl | rfl <;> decide
def colsG (n j i : Nat) : List (Nat × Nat) := if i ≤ n then (i, j) :: colsG n j (i + 1) else []
termination_by n + 1 - i
decreasing_by omega
theorem colsG_c {n j i : Nat} (h : i ≤ n) : colsG n j i = (i, j) :: colsG n j (i + 1) := by rw [colsG, if_pos h]
theorem colsG_n {n j i : Nat} (h : n < i) : colsG n j i = [] := by rw [colsG, if_neg (by omega)]
def rowsG (n m j : Nat) : List (Nat × Nat) := if j ≤ m then colsG n j 0 ++ rowsG n m (j + 1) else []
termination_by m + 1 - j
decreasing_by omega
theorem rowsG_c {n m j : Nat} (h : j ≤ m) : rowsG n m j = colsG n j 0 ++ rowsG n m (j + 1) := by rw [rowsG, if_pos h]
theorem rowsG_n {n m j : Nat} (h : m < j) : rowsG n m j = [] := by rw [rowsG, if_neg (by omega)]
theorem colsG_mem {n j i : Nat} {p : Nat × Nat} : p ∈ colsG n j i ↔ i ≤ p.1 ∧ p.1 ≤ n ∧ p.2 = j := by
  have key : ∀ m i, n + 1 - i = m → (p ∈ colsG n j i ↔ i ≤ p.1 ∧ p.1 ≤ n ∧ p.2 = j) := by
    intro m
    induction m with
    | zero => intro i hm; rw [colsG_n (by omega)]; simp; omega
    | succ m ih =>
      intro i hm
      rw [colsG_c (by omega), List.mem_cons, ih (i + 1) (by omega)]
      obtain ⟨a, b⟩ := p
      simp only [Prod.mk.injEq]
      omega
  exact key _ i rfl
theorem rowsG_mem {n m j : Nat} {p : Nat × Nat} : p ∈ rowsG n m j ↔ j ≤ p.2 ∧ p.2 ≤ m ∧ p.1 ≤ n := by
  have key : ∀ t j, m + 1 - j = t → (p ∈ rowsG n m j ↔ j ≤ p.2 ∧ p.2 ≤ m ∧ p.1 ≤ n) := by
    intro t
    induction t with
    | zero => intro j hm; rw [rowsG_n (by omega)]; simp; omega
    | succ t ih =>
      intro j hm
      rw [rowsG_c (by omega), List.mem_append, colsG_mem, ih (j + 1) (by omega)]
      omega
  exact key _ j rfl
theorem rowP_mem {w j i : Nat} {p : Nat × Nat} : p ∈ rowP w j i ↔ i ≤ p.1 ∧ p.1 < 2 * w ∧ p.2 = j ∧ (p.1 + i) % 2 = 0 := by
  have key : ∀ m i, 2 * w - i ≤ m → (p ∈ rowP w j i ↔ i ≤ p.1 ∧ p.1 < 2 * w ∧ p.2 = j ∧ (p.1 + i) % 2 = 0) := by
    intro m
    induction m with
    | zero => intro i hm; rw [rowP_n (by omega)]; simp; omega
    | succ m ih =>
      intro i hm
      by_cases hi : i < 2 * w
      · rw [rowP_c hi, List.mem_cons, ih (i + 2) (by omega)]
        obtain ⟨a, b⟩ := p
        simp only [Prod.mk.injEq]
        omega
      · rw [rowP_n (by omega)]; simp; omega
  exact key _ i (Nat.le_refl _)
theorem rowsP_mem {w h j : Nat} {p : Nat × Nat} : p ∈ rowsP w h j ↔ j ≤ p.2 ∧ p.2 < 2 * h ∧ 0 < p.1 ∧ p.1 < 2 * w ∧ (p.1 + p.2) % 2 = 1 := by
  have key : ∀ t j, 2 * h - j ≤ t → (p ∈ rowsP w h j ↔ j ≤ p.2 ∧ p.2 < 2 * h ∧ 0 < p.1 ∧ p.1 < 2 * w ∧ (p.1 + p.2) % 2 = 1) := by
    intro t
    induction t with
    | zero => intro j hm; rw [rowsP_n (by omega)]; simp; omega
    | succ t ih =>
      intro j hm
      by_cases hj : j < 2 * h
      · rw [rowsP_c hj, List.mem_append, rowP_mem, ih (j + 1) (by omega)]
        omega
      · rw [rowsP_n (by omega)]; simp; omega
  exact key _ j (Nat.le_refl _)
theorem pts_mem {w h : Nat} {p : Nat × Nat} : p ∈ pts w h ↔ nInner w h p.1 p.2 = true := by
  unfold pts nInner
  rw [rowsP_mem, decide_eq_true_iff]
  omega
/-- a row of writes: each point of the list writes its own place, told by what stood before -/
theorem fold_wr {α : Type} (I0 : am_I) (r : Nat) (L : List α) (c : α → Prop) (t : α → Nat) (v : α → Int32) (step : am_I → α → am_I)
    (hstep : ∀ (I : am_I) (p : α), p ∈ L → (∀ b, b ≠ r → I b = I0 b) → (∀ x, (∀ p' ∈ L, t p' ≠ x) → I r x = I0 r x) → (c p → step I p = am_up I r (t p) (v p)) ∧ (¬ c p → step I p = I)) :
    (∀ b, b ≠ r → List.foldl step I0 L b = I0 b) ∧ (∀ x, (∀ p ∈ L, c p → t p ≠ x) → List.foldl step I0 L r x = I0 r x) ∧ ((∀ p ∈ L, ∀ p' ∈ L, t p = t p' → v p = v p' ∧ (c p ↔ c p')) → ∀ p ∈ L, c p → List.foldl step I0 L r (t p) = v p) := by
  have key : ∀ (l : List α) (I : am_I), (∀ p ∈ l, p ∈ L) → (∀ b, b ≠ r → I b = I0 b) → (∀ x, (∀ p' ∈ L, t p' ≠ x) → I r x = I0 r x) →
      (∀ b, b ≠ r → List.foldl step I l b = I b) ∧ (∀ x, (∀ p ∈ l, c p → t p ≠ x) → List.foldl step I l r x = I r x) ∧ ((∀ p ∈ L, ∀ p' ∈ L, t p = t p' → v p = v p' ∧ (c p ↔ c p')) → ∀ p ∈ l, c p → List.foldl step I l r (t p) = v p) := by
    intro l
    induction l with
    | nil => intro I _ _ _; exact ⟨fun _ _ => rfl, fun _ _ => rfl, fun _ p hp => by cases hp⟩
    | cons q l ih =>
      intro I hl h1 h2
      have hq := hstep I q (hl q List.mem_cons_self) h1 h2
      have hJ1 : ∀ b, b ≠ r → step I q b = I b := by
        intro b hb
        by_cases hc : c q
        · rw [hq.1 hc, am_up_a I _ hb]
        · rw [hq.2 hc]
      have hJ2 : ∀ x, (c q → t q ≠ x) → step I q r x = I r x := by
        intro x hx
        by_cases hc : c q
        · rw [hq.1 hc, am_up_k I _ (fun e => hx hc e.symm)]
        · rw [hq.2 hc]
      have hr := ih (step I q) (fun p hp => hl p (List.mem_cons_of_mem _ hp)) (fun b hb => (hJ1 b hb).trans (h1 b hb)) (fun x hx => (hJ2 x (fun _ => hx q (hl q List.mem_cons_self))).trans (h2 x hx))
      refine ⟨fun b hb => (hr.1 b hb).trans (hJ1 b hb), fun x hx => ?_, fun hinj p hp hc => ?_⟩
      · rw [List.foldl_cons, hr.2.1 x (fun p hp => hx p (List.mem_cons_of_mem _ hp))]
        exact hJ2 x (hx q List.mem_cons_self)
      · rw [List.foldl_cons]
        rcases List.mem_cons.mp hp with rfl | hp
        · by_cases he : ∃ p' ∈ l, c p' ∧ t p' = t p
          · obtain ⟨p', hp', hc', ht'⟩ := he
            rw [← ht', hr.2.2 hinj p' hp' hc']
            exact (hinj p' (hl p' (List.mem_cons_of_mem _ hp')) p (hl p List.mem_cons_self) ht').1
          · rw [hr.2.1 (t p) (fun p' hp' hc' e => he ⟨p', hp', hc', e⟩), hq.1 hc, am_up_at]
        · exact hr.2.2 hinj p hp hc
  exact key L I0 (fun p hp => hp) (fun _ _ => rfl) (fun _ _ => rfl)
/-! a drawing by its mirrors -/
def gv (w h : Nat) (M : Nat → Nat → Nat) (i j : Nat) : Nat := if nInner w h i j = true then M i j else 0
def okM (w h : Nat) (M : Nat → Nat → Nat) : Prop := ∀ i j, nInner w h i j = true → M i j ≤ 2
theorem gv_le {w h : Nat} {M : Nat → Nat → Nat} (h0 : okM w h M) (i j : Nat) : gv w h M i j ≤ 2 := by
  unfold gv
  split
  · exact h0 i j ‹_›
  · omega
/-- grid g of the reference holds the drawing -/
def isGr (I : am_I) (g w h : Nat) (M : Nat → Nat → Nat) : Prop := I 45 g = nI w ∧ I 46 g = nI h ∧ ∀ i j, i < 17 → j < 17 → I 47 (289 * g + 17 * j + i) = nI (gv w h M i j)
/-- the class's drawing a with its row q holds it -/
def isDr (I : am_I) (a q w h : Nat) (M : Nat → Nat → Nat) : Prop := I a 0 = nI w ∧ I a 1 = nI h ∧ ∀ p, p < 128 → I q p = nI (gv w h M (2 * (p % 8) + (p / 8 + 1) % 2) (p / 8))
theorem isDr.at {I : am_I} {a q w h : Nat} {M : Nat → Nat → Nat} (hd : isDr I a q w h M) (w8 : w ≤ 8) (h8 : h ≤ 8) {i j : Nat} (hin : nInner w h i j = true) : I q (8 * j + i / 2) = nI (M i j) := by
  have hb := of_decide_eq_true hin
  have e1 : (8 * j + i / 2) % 8 = i / 2 := by omega
  have e2 : (8 * j + i / 2) / 8 = j := by omega
  rw [hd.2.2 _ (by omega), e1, e2, show 2 * (i / 2) + (j + 1) % 2 = i by omega]
  simp [gv, hin]
/-- only the told grids have changed -/
def gfr (L : Nat → Prop) (I I' : am_I) : Prop := (∀ c, c ≠ 45 → c ≠ 46 → c ≠ 47 → I' c = I c) ∧ ∀ g, ¬ L g → I' 45 g = I 45 g ∧ I' 46 g = I 46 g ∧ ∀ k, k < 289 → I' 47 (289 * g + k) = I 47 (289 * g + k)
theorem isGr.kept {L : Nat → Prop} {I I' : am_I} {g w h : Nat} {M : Nat → Nat → Nat} (hf : gfr L I I') (hg : ¬ L g) (hI : isGr I g w h M) : isGr I' g w h M := by
  obtain ⟨h1, h2, h3⟩ := hf.2 g hg
  refine ⟨h1.trans hI.1, h2.trans hI.2.1, fun i j hi hj => ?_⟩
  have := h3 (17 * j + i) (by omega)
  rw [Nat.add_assoc, this, ← Nat.add_assoc]
  exact hI.2.2 i j hi hj
theorem gfr.trans {L1 L2 : Nat → Prop} {I I1 I2 : am_I} (h1 : gfr L1 I I1) (h2 : gfr L2 I1 I2) : gfr (fun g => L1 g ∨ L2 g) I I2 := by
  refine ⟨fun c a b d => (h2.1 c a b d).trans (h1.1 c a b d), fun g hg => ?_⟩
  obtain ⟨a1, a2, a3⟩ := h1.2 g (fun q => hg (Or.inl q))
  obtain ⟨b1, b2, b3⟩ := h2.2 g (fun q => hg (Or.inr q))
  exact ⟨b1.trans a1, b2.trans a2, fun k hk => (b3 k hk).trans (a3 k hk)⟩
theorem gfr.mono {L1 L2 : Nat → Prop} {I I1 : am_I} (h1 : gfr L1 I I1) (h : ∀ g, L1 g → L2 g) : gfr L2 I I1 := ⟨h1.1, fun g hg => h1.2 g (fun q => hg (h g q))⟩
/-- a stretch of a row -/
def stP (lo n : Nat) (v f : Nat → Int32) : Nat → Int32 := fun p => if lo ≤ p ∧ p < lo + n then v (p - lo) else f p
theorem stP_step (I : am_I) (r lo k : Nat) (v : Nat → Int32) (f : Nat → Int32) : am_up (va_up I r (stP lo k v f)) r (lo + k) (v k) = va_up I r (stP lo (k + 1) v f) := by
  funext b p
  by_cases hb : b = r
  · subst hb
    by_cases hp : p = lo + k
    · subst hp
      rw [am_up_at]
      simp [va_up, stP]
    · rw [am_up_k _ _ hp]
      simp only [va_up, if_true, stP]
      by_cases h : lo ≤ p ∧ p < lo + k
      · rw [if_pos h, if_pos (by omega)]
      · rw [if_neg h, if_neg (by omega)]
  · rw [am_up_a _ _ hb]; simp [va_up, hb]
theorem stP_0 (I : am_I) (r lo : Nat) (v : Nat → Int32) : I = va_up I r (stP lo 0 v (I r)) := by
  funext b p
  by_cases hb : b = r
  · subst hb; simp only [va_up, if_true, stP]; rw [if_neg (by omega)]
  · simp [va_up, hb]
