/-! LINES. A place on a line: the square (a, b), whether it goes right, whether it goes down -/
abbrev lS : Type := Nat × Nat × Bool × Bool
def lInv (w h : Nat) (s : lS) : Prop := s.1 < 2 * w ∧ s.2.1 < 2 * h ∧ s.2.2.2 = (decide ((s.1 + s.2.1) % 2 = 1) == s.2.2.1)
def lI (s : lS) : Nat := if s.2.2.1 = true then s.1 + 1 else s.1
def lJ (s : lS) : Nat := if s.2.2.2 = true then s.2.1 + 1 else s.2.1
def lTx (w h : Nat) (M : Nat → Nat → Nat) (i j : Nat) : Bool := decide (i = 0 ∨ i = 2 * w ∨ gv w h M i j = 1)
def lTy (w h : Nat) (M : Nat → Nat → Nat) (i j : Nat) : Bool := decide (j = 0 ∨ j = 2 * h ∨ gv w h M i j = 2)
def lR (w h : Nat) (M : Nat → Nat → Nat) (s : lS) : Bool := if lTx w h M (lI s) (lJ s) = true then !s.2.2.1 else s.2.2.1
def lD (w h : Nat) (M : Nat → Nat → Nat) (s : lS) : Bool := if lTx w h M (lI s) (lJ s) = true then s.2.2.2 else if lTy w h M (lI s) (lJ s) = true then !s.2.2.2 else s.2.2.2
def lF (w h : Nat) (M : Nat → Nat → Nat) (s : lS) : lS := (if lR w h M s = true then lI s else lI s - 1, if lD w h M s = true then lJ s else lJ s - 1, lR w h M s, lD w h M s)
def lV (s : lS) : lS := (s.1, s.2.1, !s.2.2.1, !s.2.2.2)
section LINES
variable {w h : Nat} {M : Nat → Nat → Nat}
theorem lInv_pt {s : lS} (hs : lInv w h s) : lI s ≤ 2 * w ∧ lJ s ≤ 2 * h ∧ (lI s + lJ s) % 2 = 1 := by
  obtain ⟨a, b, r, d⟩ := s
  obtain ⟨h1, h2, h3⟩ := hs
  simp only at h1 h2 h3
  simp only [lI, lJ]
  cases r <;> cases d <;> simp at h3 ⊢ <;> omega
/-- left and right, up and down never change at once -/
theorem lT_one {s : lS} (hs : lInv w h s) (h1 : lTx w h M (lI s) (lJ s) = true) : lTy w h M (lI s) (lJ s) = false := by
  have hp := lInv_pt hs
  have hx := of_decide_eq_true h1
  refine decide_eq_false (fun hy => ?_)
  rcases hx with hx | hx | hx <;> rcases hy with hy | hy | hy
  all_goals first
    | omega
    | (have : gv w h M (lI s) (lJ s) ≠ 0 := by omega
       unfold gv at this
       split at this
       · have := nIn.mp ‹_›; omega
       · exact absurd rfl this)
theorem lF_inv {s : lS} (hs : lInv w h s) : lInv w h (lF w h M s) := by
  have hp := lInv_pt hs
  have h0 : lI s = 0 → lR w h M s = true ∧ lTx w h M (lI s) (lJ s) = true := by
    intro e
    have ht : lTx w h M (lI s) (lJ s) = true := decide_eq_true (Or.inl e)
    refine ⟨?_, ht⟩
    unfold lR
    rw [if_pos ht]
    obtain ⟨a, b, r, d⟩ := s
    cases r
    · rfl
    · simp [lI] at e
  have h1 : lI s = 2 * w → lR w h M s = false ∧ lTx w h M (lI s) (lJ s) = true := by
    intro e
    have ht : lTx w h M (lI s) (lJ s) = true := decide_eq_true (Or.inr (Or.inl e))
    refine ⟨?_, ht⟩
    unfold lR
    rw [if_pos ht]
    obtain ⟨a, b, r, d⟩ := s
    have := hs.1
    cases r
    · simp [lI] at e this; omega
    · rfl
  have h2 : lJ s = 0 → lD w h M s = true := by
    intro e
    have ht : lTx w h M (lI s) (lJ s) = false := by
      cases hq : lTx w h M (lI s) (lJ s) with
      | false => rfl
      | true => have := lT_one hs hq; rw [show lTy w h M (lI s) (lJ s) = true from decide_eq_true (Or.inl e)] at this; cases this
    have hy : lTy w h M (lI s) (lJ s) = true := decide_eq_true (Or.inl e)
    unfold lD
    rw [ht, if_neg (by decide), if_pos hy]
    obtain ⟨a, b, r, d⟩ := s
    cases d
    · rfl
    · simp [lJ] at e
  have h3 : lJ s = 2 * h → lD w h M s = false := by
    intro e
    have ht : lTx w h M (lI s) (lJ s) = false := by
      cases hq : lTx w h M (lI s) (lJ s) with
      | false => rfl
      | true => have := lT_one hs hq; rw [show lTy w h M (lI s) (lJ s) = true from decide_eq_true (Or.inr (Or.inl e))] at this; cases this
    have hy : lTy w h M (lI s) (lJ s) = true := decide_eq_true (Or.inr (Or.inl e))
    unfold lD
    rw [ht, if_neg (by decide), if_pos hy]
    obtain ⟨a, b, r, d⟩ := s
    have := hs.2.1
    cases d
    · simp [lJ] at e this; omega
    · rfl
  have hpar : lD w h M s = (decide (((if lR w h M s = true then lI s else lI s - 1) + (if lD w h M s = true then lJ s else lJ s - 1)) % 2 = 1) == lR w h M s) := by
    by_cases hi : lI s = 0
    · have := (h0 hi).1
      rw [this]
      cases hd : lD w h M s
      · have : lJ s ≠ 0 := fun q => by have := h2 q; rw [hd] at this; cases this
        simp; omega
      · simp; omega
    · cases hr : lR w h M s <;> cases hd : lD w h M s
      · have : lJ s ≠ 0 := fun q => by have := h2 q; rw [hd] at this; cases this
        simp; omega
      · simp; omega
      · have : lJ s ≠ 0 := fun q => by have := h2 q; rw [hd] at this; cases this
        simp; omega
      · simp; omega
  refine ⟨?_, ?_, hpar⟩
  · show (if lR w h M s = true then lI s else lI s - 1) < 2 * w
    by_cases hi : lI s = 2 * w
    · rw [(h1 hi).1]; simp; have := hs.1; omega
    · split
      · omega
      · have : lI s ≠ 0 := fun q => ‹¬ lR w h M s = true› (h0 q).1
        omega
  · show (if lD w h M s = true then lJ s else lJ s - 1) < 2 * h
    by_cases hi : lJ s = 2 * h
    · rw [h3 hi]; simp; have := hs.2.1; omega
    · split
      · omega
      · have : lJ s ≠ 0 := fun q => ‹¬ lD w h M s = true› (h2 q)
        omega
theorem lV_inv {s : lS} (hs : lInv w h s) : lInv w h (lV s) := by
  obtain ⟨a, b, r, d⟩ := s
  obtain ⟨h1, h2, h3⟩ := hs
  refine ⟨h1, h2, ?_⟩
  show (!d) = (decide ((a + b) % 2 = 1) == !r)
  have h4 : d = (decide ((a + b) % 2 = 1) == r) := h3
  rw [h4]
  cases decide ((a + b) % 2 = 1) <;> cases r <;> rfl
theorem lV_V (s : lS) : lV (lV s) = s := by
  obtain ⟨a, b, r, d⟩ := s
  simp [lV]
theorem lF_pt {s : lS} (hs : lInv w h s) : lI (lV (lF w h M s)) = lI s ∧ lJ (lV (lF w h M s)) = lJ s := by
  have hi := lF_inv (M := M) hs
  have hr : lR w h M s = false → 0 < lI s := by
    intro hr
    apply Nat.pos_of_ne_zero
    intro e
    have ht : lTx w h M (lI s) (lJ s) = true := decide_eq_true (Or.inl e)
    unfold lR at hr
    rw [if_pos ht] at hr
    obtain ⟨a, b, r, d⟩ := s
    cases r
    · simp at hr
    · simp [lI] at e
  have hd : lD w h M s = false → 0 < lJ s := by
    intro hd
    apply Nat.pos_of_ne_zero
    intro e
    have hy : lTy w h M (lI s) (lJ s) = true := decide_eq_true (Or.inl e)
    have ht : lTx w h M (lI s) (lJ s) = false := by
      cases hq : lTx w h M (lI s) (lJ s) with
      | false => rfl
      | true => have := lT_one hs hq; rw [hy] at this; cases this
    unfold lD at hd
    rw [ht, if_neg (by decide), if_pos hy] at hd
    obtain ⟨a, b, r, d⟩ := s
    cases d
    · simp at hd
    · simp [lJ] at e
  constructor
  · show (if (!lR w h M s) = true then (if lR w h M s = true then lI s else lI s - 1) + 1 else (if lR w h M s = true then lI s else lI s - 1)) = lI s
    cases hq : lR w h M s
    · have := hr hq; simp; omega
    · simp
  · show (if (!lD w h M s) = true then (if lD w h M s = true then lJ s else lJ s - 1) + 1 else (if lD w h M s = true then lJ s else lJ s - 1)) = lJ s
    cases hq : lD w h M s
    · have := hd hq; simp; omega
    · simp
/-- the way back -/
theorem lF_back {s : lS} (hs : lInv w h s) : lF w h M (lV (lF w h M s)) = lV s := by
  obtain ⟨e1, e2⟩ := lF_pt (M := M) hs
  have eR : lR w h M (lV (lF w h M s)) = !s.2.2.1 := by
    unfold lR
    rw [e1, e2]
    show (if lTx w h M (lI s) (lJ s) = true then !(!lR w h M s) else !lR w h M s) = _
    unfold lR
    split <;> simp
  have eD : lD w h M (lV (lF w h M s)) = !s.2.2.2 := by
    unfold lD
    rw [e1, e2]
    show (if lTx w h M (lI s) (lJ s) = true then !lD w h M s else if lTy w h M (lI s) (lJ s) = true then !(!lD w h M s) else !lD w h M s) = _
    unfold lD
    split
    · rfl
    · split <;> simp
  unfold lF at *
  rw [eR, eD]
  have e1' : lI (lV (if lR w h M s = true then lI s else lI s - 1, if lD w h M s = true then lJ s else lJ s - 1, lR w h M s, lD w h M s)) = lI s := e1
  have e2' : lJ (lV (if lR w h M s = true then lI s else lI s - 1, if lD w h M s = true then lJ s else lJ s - 1, lR w h M s, lD w h M s)) = lJ s := e2
  rw [e1', e2']
  obtain ⟨a, b, r, d⟩ := s
  simp only [lI, lJ, lV]
  cases r <;> cases d <;> simp
theorem lF_inj {s t : lS} (hs : lInv w h s) (ht : lInv w h t) (e : lF w h M s = lF w h M t) : s = t := by
  have h1 := lF_back (M := M) hs
  have h2 := lF_back (M := M) ht
  rw [e, h2] at h1
  rw [← lV_V s, ← lV_V t, h1]
theorem lF_ne {s : lS} (hs : lInv w h s) : lF w h M s ≠ lV s := by
  intro e
  have e1 : lR w h M s = !s.2.2.1 := congrArg (fun x : lS => x.2.2.1) e
  have e2 : lD w h M s = !s.2.2.2 := congrArg (fun x : lS => x.2.2.2) e
  unfold lR at e1
  unfold lD at e2
  by_cases hq : lTx w h M (lI s) (lJ s) = true
  · rw [if_pos hq] at e2
    cases h3 : s.2.2.2 <;> rw [h3] at e2 <;> cases e2
  · rw [if_neg hq] at e1
    cases h3 : s.2.2.1 <;> rw [h3] at e1 <;> cases e1
/-- so many steps on -/
def lt (w h : Nat) (M : Nat → Nat → Nat) : Nat → lS → lS
  | 0, s => s
  | k + 1, s => lF w h M (lt w h M k s)
theorem lt_inv {s : lS} (hs : lInv w h s) (k : Nat) : lInv w h (lt w h M k s) := by
  induction k with
  | zero => exact hs
  | succ k ih => exact lF_inv ih
theorem lt_add (k l : Nat) (s : lS) : lt w h M (k + l) s = lt w h M k (lt w h M l s) := by
  induction k with
  | zero => rw [Nat.zero_add]; rfl
  | succ k ih => rw [show k + 1 + l = (k + l) + 1 by omega]; show lF w h M (lt w h M (k + l) s) = lF w h M (lt w h M k (lt w h M l s)); rw [ih]
theorem lt_inj {s t : lS} (hs : lInv w h s) (ht : lInv w h t) (k : Nat) (e : lt w h M k s = lt w h M k t) : s = t := by
  induction k with
  | zero => exact e
  | succ k ih => exact ih (lF_inj (lt_inv hs k) (lt_inv ht k) e)
theorem lt_back {s : lS} (hs : lInv w h s) (k : Nat) : lt w h M k (lV (lt w h M k s)) = lV s := by
  induction k generalizing s with
  | zero => rfl
  | succ k ih =>
    have e1 : lt w h M (k + 1) s = lt w h M k (lF w h M s) := lt_add k 1 s
    have e2 : ∀ x, lt w h M (k + 1) x = lF w h M (lt w h M k x) := fun _ => rfl
    rw [e2 (lV _), e1, ih (lF_inv hs), lF_back hs]
/-- a line never goes through a square both ways -/
theorem lt_nV (k : Nat) : ∀ {s : lS}, lInv w h s → lt w h M k s ≠ lV s := by
  induction k using Nat.strongRecOn with
  | _ k ih =>
    intro s hs e
    match k, ih, e with
    | 0, _, e =>
      have : s.2.2.1 = !s.2.2.1 := congrArg (fun x : lS => x.2.2.1) e
      cases h3 : s.2.2.1 <;> rw [h3] at this <;> cases this
    | 1, _, e => exact lF_ne hs e
    | k + 2, ih, e =>
      have hu : lInv w h (lt w h M (k + 1) s) := lt_inv hs _
      have e1 : lF w h M (lt w h M (k + 1) s) = lV s := e
      have e2 := lF_back (M := M) hu
      rw [e1, lV_V] at e2
      have e3 : lt w h M (k + 1) s = lV (lF w h M s) := by rw [e2, lV_V]
      rw [lt_add k 1 s] at e3
      exact ih k (by omega) (lF_inv hs) e3
theorem sq_same {s t : lS} (hs : lInv w h s) (ht : lInv w h t) (h1 : s.1 = t.1) (h2 : s.2.1 = t.2.1) : s = t ∨ s = lV t := by
  obtain ⟨a, b, r, d⟩ := s
  obtain ⟨a', b', r', d'⟩ := t
  simp only at h1 h2
  subst h1; subst h2
  have e1 : d = (decide ((a + b) % 2 = 1) == r) := hs.2.2
  have e2 : d' = (decide ((a + b) % 2 = 1) == r') := ht.2.2
  rw [e1, e2]
  generalize decide ((a + b) % 2 = 1) = P
  cases r <;> cases r' <;> cases P <;> first | exact Or.inl rfl | exact Or.inr rfl
/-- one square, one place of the line -/
theorem lt_sq {s : lS} (hs : lInv w h s) {k l : Nat} (h1 : (lt w h M k s).1 = (lt w h M l s).1) (h2 : (lt w h M k s).2.1 = (lt w h M l s).2.1) : lt w h M k s = lt w h M l s := by
  rcases sq_same (lt_inv hs k) (lt_inv hs l) h1 h2 with e | e
  · exact e
  · exfalso
    rcases Nat.le_total k l with hkl | hkl
    · have : lt w h M (l - k) (lt w h M k s) = lV (lt w h M k s) := by
        rw [← lt_add, Nat.sub_add_cancel hkl, e, lV_V]
      exact lt_nV _ (lt_inv hs k) this
    · have : lt w h M (k - l) (lt w h M l s) = lV (lt w h M l s) := by
        rw [← lt_add, Nat.sub_add_cancel hkl, e]
      exact lt_nV _ (lt_inv hs l) this
theorem pigeon : ∀ (N : Nat) (f : Nat → Nat), (∀ k, k ≤ N → f k < N) → ∃ k l, k < l ∧ l ≤ N ∧ f k = f l := by
  intro N
  induction N with
  | zero => intro f hf; exact absurd (hf 0 (Nat.le_refl _)) (by omega)
  | succ N ih =>
    intro f hf
    by_cases hx : ∃ k, k ≤ N ∧ f k = f (N + 1)
    · obtain ⟨k, h1, h2⟩ := hx
      exact ⟨k, N + 1, by omega, Nat.le_refl _, h2⟩
    · have hne : ∀ k, k ≤ N → f k ≠ f (N + 1) := fun k hk e => hx ⟨k, hk, e⟩
      obtain ⟨k, l, h1, h2, h3⟩ := ih (fun k => if f k = N then f (N + 1) else f k) (fun k hk => by
        have a1 := hf k (by omega)
        have a2 := hf (N + 1) (Nat.le_refl _)
        have a3 := hne k hk
        split <;> omega)
      have b1 := hne k (by omega)
      have b2 := hne l (by omega)
      refine ⟨k, l, h1, by omega, ?_⟩
      split at h3 <;> split at h3 <;> first | omega | exact absurd h3.symm b2 | exact absurd h3 b1 | exact h3
/-- each line closes -/
theorem lt_close {s : lS} (hs : lInv w h s) : ∃ T, 0 < T ∧ T ≤ 4 * w * h ∧ lt w h M T s = s := by
  have hlt : ∀ k, 2 * w * (lt w h M k s).2.1 + (lt w h M k s).1 < 4 * w * h := by
    intro k
    have hi := lt_inv (M := M) hs k
    have h1 := hi.1
    have h2 := hi.2.1
    have : 2 * w * ((lt w h M k s).2.1 + 1) ≤ 2 * w * (2 * h) := Nat.mul_le_mul_left _ h2
    have e : 2 * w * (2 * h) = 4 * w * h := by rw [show 4 * w * h = 2 * 2 * w * h by rfl]; simp only [Nat.mul_assoc, Nat.mul_left_comm, Nat.mul_comm]
    rw [Nat.mul_add] at this
    omega
  obtain ⟨k, l, h1, h2, h3⟩ := pigeon (4 * w * h) (fun k => 2 * w * (lt w h M k s).2.1 + (lt w h M k s).1) (fun k _ => hlt k)
  have hk := (lt_inv (M := M) hs k).1
  have hl := (lt_inv (M := M) hs l).1
  have hb : (lt w h M k s).2.1 = (lt w h M l s).2.1 := by
    have e1 : (2 * w * (lt w h M k s).2.1 + (lt w h M k s).1) / (2 * w) = (lt w h M k s).2.1 := by
      rw [Nat.mul_add_div (by omega), Nat.div_eq_of_lt hk]; rfl
    have e2 : (2 * w * (lt w h M l s).2.1 + (lt w h M l s).1) / (2 * w) = (lt w h M l s).2.1 := by
      rw [Nat.mul_add_div (by omega), Nat.div_eq_of_lt hl]; rfl
    rw [← e1, ← e2]
    exact congrArg (· / (2 * w)) h3
  have ha : (lt w h M k s).1 = (lt w h M l s).1 := by have h3' : 2 * w * (lt w h M k s).2.1 + (lt w h M k s).1 = 2 * w * (lt w h M l s).2.1 + (lt w h M l s).1 := h3; rw [hb] at h3'; omega
  have e := lt_sq hs ha hb
  rw [show l = k + (l - k) by omega, lt_add] at e
  exact ⟨l - k, by omega, by omega, (lt_inj hs (lt_inv hs _) k e).symm⟩
end LINES
