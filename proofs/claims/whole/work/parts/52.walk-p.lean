/-! a walk back, pure -/
def rt (c : Nat) : Bool := decide (c = 97 ∨ c = 100)
def dn (c : Nat) : Bool := decide (c = 97 ∨ c = 98)
def mv (b : Bool) (i : Nat) : Nat := if b = true then i + 1 else i - 1
def lw (b : Bool) (i : Nat) : Nat := if b = true then i else i - 1
def inS (b : Bool) (i m : Nat) : Bool := if b = true then decide (i + 1 ≤ m) else decide (1 ≤ i)
def tv (c0 c : Nat) : Nat := if rt c0 = rt c then (if dn c0 = dn c then 0 else 2) else 1
theorem tv_le (c0 c : Nat) : tv c0 c ≤ 2 := by unfold tv; split <;> (try split) <;> omega
theorem inS_i {b : Bool} {i m : Nat} (h : inS b i m = true) : (b = true → i + 1 ≤ m) ∧ (b = false → 1 ≤ i) := by
  unfold inS at h
  cases b
  · exact ⟨fun q => absurd q (by decide), fun _ => of_decide_eq_true (by simpa using h)⟩
  · exact ⟨fun _ => of_decide_eq_true (by simpa using h), fun q => absurd q (by decide)⟩
theorem mv_ne {b : Bool} {i m : Nat} (h : inS b i m = true) : mv b i ≠ i := by
  have := inS_i h
  unfold mv
  cases b
  · have := this.2 rfl; simp; omega
  · simp
theorem mv_le {b : Bool} {i m : Nat} (h : inS b i m = true) (hi : i ≤ m) : mv b i ≤ m := by
  have := inS_i h
  unfold mv
  cases b
  · simp; omega
  · have := this.1 rfl; simpa using this
theorem mv_par {b : Bool} {i m : Nat} (h : inS b i m = true) : (mv b i) % 2 = (i + 1) % 2 := by
  have := inS_i h
  unfold mv
  cases b
  · have := this.2 rfl; simp; omega
  · simp
theorem lw_mv {b : Bool} {i m : Nat} (h : inS b i m = true) : lw b i = lw (!b) (mv b i) := by
  have := inS_i h
  unfold lw mv
  cases b
  · have := this.2 rfl; simp
  · simp
theorem lw_lt {b : Bool} {i m : Nat} (h : inS b i m = true) (hi : i ≤ m) : lw b i < m := by
  have := inS_i h
  unfold lw
  cases b
  · have := this.2 rfl; simp; omega
  · have := this.1 rfl; simp; omega
theorem bits4 : ∀ p q p' q' s t s' t' : Bool, ¬ ((!p) = p' ∧ (!q) = q') → ¬ ((!s) = s' ∧ (!t) = t') → ¬ ((!p) = (!s) ∧ (!q) = (!t)) → ¬ ((!p) = s' ∧ (!q) = t') → ¬ (p' = (!s) ∧ q' = (!t)) → ¬ (p' = s' ∧ q' = t') → (if p = p' then (if q = q' then 0 else 2) else 1 : Nat) = (if s = s' then (if t = t' then 0 else 2) else 1) := by decide
theorem con4 {W i j c1 c2 c3 c4 q1 q2 q3 q4 : Nat} (e1 : q1 = W * lw (!dn c1) j + lw (!rt c1) i) (e2 : q2 = W * lw (dn c2) j + lw (rt c2) i) (e3 : q3 = W * lw (!dn c3) j + lw (!rt c3) i) (e4 : q4 = W * lw (dn c4) j + lw (rt c4) i) (n12 : q1 ≠ q2) (n34 : q3 ≠ q4) (n13 : q1 ≠ q3) (n14 : q1 ≠ q4) (n23 : q2 ≠ q3) (n24 : q2 ≠ q4) : tv c1 c2 = tv c3 c4 :=
  bits4 (rt c1) (dn c1) (rt c2) (dn c2) (rt c3) (dn c3) (rt c4) (dn c4) (fun h => n12 (by rw [e1, e2, h.1, h.2])) (fun h => n34 (by rw [e3, e4, h.1, h.2])) (fun h => n13 (by rw [e1, e3, h.1, h.2])) (fun h => n14 (by rw [e1, e4, h.1, h.2])) (fun h => n23 (by rw [e2, e3, h.1, h.2])) (fun h => n24 (by rw [e2, e4, h.1, h.2]))
abbrev wSt : Type := (Nat → Nat → Nat) × (Nat → Nat → Nat) × Nat
def tell (w h : Nat) (σ : wSt) (p : Nat × Nat) (v : Nat) : wSt := if nInner w h p.1 p.2 = true ∧ σ.2.1 p.1 p.2 = 0 then (upM σ.1 p v, upM σ.2.1 p 1, σ.2.2 + 1) else σ
section WB
variable (w h : Nat) (B : Nat → Nat) (i0 j0 : Nat)
def wP : Nat → Nat × Nat
  | 0 => (i0, j0)
  | k + 1 => (mv (rt (B k)) (wP k).1, mv (dn (B k)) (wP k).2)
/-- the square of a step -/
def wQ (k : Nat) : Nat := 2 * w * lw (dn (B k)) (wP B i0 j0 k).2 + lw (rt (B k)) (wP B i0 j0 k).1
def wG : Nat → Nat → Bool
  | 0, _ => false
  | k + 1, x => wG k x || decide (wQ w B i0 j0 k = x)
def wK (k : Nat) : Nat := if 97 ≤ B k ∧ B k ≤ 100 then (if inS (rt (B k)) (wP B i0 j0 k).1 (2 * w) = true ∧ inS (dn (B k)) (wP B i0 j0 k).2 (2 * h) = true then (if wG w B i0 j0 k (wQ w B i0 j0 k) = true then 3 else 0) else 2) else 1
def wE : Nat → Option (Nat × Nat)
  | 0 => none
  | k + 1 => match wE k with
    | some e => some e
    | none => if wK w h B i0 j0 k = 0 then none else some (wK w h B i0 j0 k, k)
def wT : Nat → wSt
  | 0 => (zM, zM, 0)
  | k + 1 => if k = 0 then (zM, zM, 0) else tell w h (wT k) (wP B i0 j0 k) (tv (B (k - 1)) (B k))
def wR (n : Nat) : (Nat × Nat) ⊕ wSt := match wE w h B i0 j0 n with
  | some e => .inl e
  | none => if n = 0 ∨ wP B i0 j0 n ≠ (i0, j0) then .inl (4, n) else .inr (tell w h (wT w h B i0 j0 n) (wP B i0 j0 n) (tv (B (n - 1)) (B 0)))
def wD (n : Nat) : (Nat × Nat) ⊕ Dw := match wR w h B i0 j0 n with
  | .inl e => .inl e
  | .inr σ => .inr (w, h, σ.1)
def vBk (n : Nat) : Int32 := match wR w h B i0 j0 n with
  | .inl _ => -1
  | .inr σ => nI σ.2.2
end WB
section WC
variable {w h : Nat} {B : Nat → Nat} {i0 j0 : Nat}
theorem wE_s {k : Nat} (h0 : wE w h B i0 j0 k = none) : wE w h B i0 j0 (k + 1) = if wK w h B i0 j0 k = 0 then none else some (wK w h B i0 j0 k, k) := by
  show (match wE w h B i0 j0 k with
    | some e => some e
    | none => if wK w h B i0 j0 k = 0 then none else some (wK w h B i0 j0 k, k)) = _
  rw [h0]
theorem wE_p {k : Nat} (h0 : wE w h B i0 j0 (k + 1) = none) : wE w h B i0 j0 k = none ∧ wK w h B i0 j0 k = 0 := by
  cases h1 : wE w h B i0 j0 k with
  | some e =>
    have h2 : wE w h B i0 j0 (k + 1) = some e := by
      show (match wE w h B i0 j0 k with
        | some e => some e
        | none => if wK w h B i0 j0 k = 0 then none else some (wK w h B i0 j0 k, k)) = _
      rw [h1]
    rw [h2] at h0; exact absurd h0 (by simp)
  | none =>
    rw [wE_s h1] at h0
    refine ⟨rfl, ?_⟩
    by_cases h2 : wK w h B i0 j0 k = 0
    · exact h2
    · rw [if_neg h2] at h0; exact absurd h0 (by simp)
theorem wE_stay {e : Nat × Nat} {k : Nat} (h0 : wE w h B i0 j0 k = some e) : ∀ m, wE w h B i0 j0 (k + m) = some e
  | 0 => h0
  | m + 1 => by
    show (match wE w h B i0 j0 (k + m) with
      | some e => some e
      | none => if wK w h B i0 j0 (k + m) = 0 then none else some (wK w h B i0 j0 (k + m), k + m)) = _
    rw [wE_stay h0 m]
/-- a fault at step k, the first -/
theorem wE_at {k n f : Nat} (h0 : wE w h B i0 j0 k = none) (hk : k < n) (hf : wK w h B i0 j0 k = f) (h1 : f ≠ 0) : wE w h B i0 j0 n = some (f, k) := by
  have h2 : wE w h B i0 j0 (k + 1) = some (f, k) := by rw [wE_s h0, hf, if_neg h1]
  have h3 := wE_stay h2 (n - (k + 1))
  rwa [show k + 1 + (n - (k + 1)) = n by omega] at h3
theorem wE_lt {k : Nat} (h0 : wE w h B i0 j0 k = none) : ∀ k', k' < k → wE w h B i0 j0 (k' + 1) = none := by
  induction k with
  | zero => intro k' hk; omega
  | succ k ih =>
    intro k' hk
    by_cases h1 : k' = k
    · rw [h1]; exact h0
    · exact ih (wE_p h0).1 k' (by omega)
theorem wK_0 {k : Nat} (h0 : wK w h B i0 j0 k = 0) : (97 ≤ B k ∧ B k ≤ 100) ∧ inS (rt (B k)) (wP B i0 j0 k).1 (2 * w) = true ∧ inS (dn (B k)) (wP B i0 j0 k).2 (2 * h) = true ∧ wG w B i0 j0 k (wQ w B i0 j0 k) = false := by
  unfold wK at h0
  split at h0
  · rename_i h1
    split at h0
    · rename_i h2
      split at h0
      · omega
      · rename_i h3; exact ⟨h1, h2.1, h2.2, by simpa using h3⟩
    · omega
  · omega
theorem wG_iff {x : Nat} : ∀ {k : Nat}, wG w B i0 j0 k x = true ↔ ∃ k', k' < k ∧ wQ w B i0 j0 k' = x := by
  intro k
  induction k with
  | zero => exact ⟨fun h => absurd h (by simp [wG]), fun ⟨_, h, _⟩ => by omega⟩
  | succ k ih =>
    simp only [wG, Bool.or_eq_true, ih, decide_eq_true_eq]
    constructor
    · rintro (⟨k', h1, h2⟩ | h1)
      · exact ⟨k', by omega, h2⟩
      · exact ⟨k, by omega, h1⟩
    · rintro ⟨k', h1, h2⟩
      by_cases h3 : k' = k
      · exact Or.inr (by rw [← h3]; exact h2)
      · exact Or.inl ⟨k', by omega, h2⟩
theorem wP_in (hi : i0 ≤ 2 * w) (hj : j0 ≤ 2 * h) (hp : (i0 + j0) % 2 = 1) : ∀ {k : Nat}, wE w h B i0 j0 k = none → (wP B i0 j0 k).1 ≤ 2 * w ∧ (wP B i0 j0 k).2 ≤ 2 * h ∧ ((wP B i0 j0 k).1 + (wP B i0 j0 k).2) % 2 = 1 := by
  intro k
  induction k with
  | zero => intro _; exact ⟨hi, hj, hp⟩
  | succ k ih =>
    intro h0
    obtain ⟨h1, h2⟩ := wE_p h0
    obtain ⟨g1, g2, g3⟩ := ih h1
    obtain ⟨_, k2, k3, _⟩ := wK_0 h2
    refine ⟨mv_le k2 g1, mv_le k3 g2, ?_⟩
    have a1 := mv_par k2
    have a2 := mv_par k3
    show (mv (rt (B k)) (wP B i0 j0 k).1 + mv (dn (B k)) (wP B i0 j0 k).2) % 2 = 1
    omega
theorem wQ_b {k : Nat} (h1 : (wP B i0 j0 k).1 ≤ 2 * w) (h2 : (wP B i0 j0 k).2 ≤ 2 * h) (k2 : inS (rt (B k)) (wP B i0 j0 k).1 (2 * w) = true) (k3 : inS (dn (B k)) (wP B i0 j0 k).2 (2 * h) = true) : wQ w B i0 j0 k < 4 * w * h := by
  have a1 := lw_lt k2 h1
  have a2 := lw_lt k3 h2
  unfold wQ
  have e : 4 * w * h = 2 * w * (2 * h) := by rw [show (4 : Nat) = 2 * 2 from rfl, Nat.mul_assoc, Nat.mul_assoc, Nat.mul_assoc, ← Nat.mul_assoc w 2 h, Nat.mul_comm w 2, Nat.mul_assoc]
  have a3 : 2 * w * (lw (dn (B k)) (wP B i0 j0 k).2 + 1) ≤ 2 * w * (2 * h) := Nat.mul_le_mul_left _ a2
  rw [Nat.mul_succ] at a3
  omega
theorem wQ_ne {k k' : Nat} (h0 : wE w h B i0 j0 (k + 1) = none) (hk : k' < k) : wQ w B i0 j0 k' ≠ wQ w B i0 j0 k := fun q => by
  have h1 := (wK_0 (wE_p h0).2).2.2.2
  rw [wG_iff.mpr ⟨k', hk, q⟩] at h1
  exact absurd h1 (by decide)
theorem wQ_ne2 {n k k' : Nat} (h0 : wE w h B i0 j0 n = none) (hk : k < n) (hk' : k' < n) (hne : k ≠ k') : wQ w B i0 j0 k ≠ wQ w B i0 j0 k' := by
  rcases Nat.lt_or_gt_of_ne hne with h1 | h1
  · exact wQ_ne (wE_lt h0 k' hk') h1
  · exact (wQ_ne (wE_lt h0 k hk) h1).symm
theorem wP_ne {k : Nat} (h0 : wE w h B i0 j0 (k + 1) = none) : wP B i0 j0 (k + 1) ≠ wP B i0 j0 k := fun q => mv_ne (wK_0 (wE_p h0).2).2.1 (congrArg Prod.fst q)
/-- the square of the step that comes to a point, seen from the point -/
theorem wQ_in {k : Nat} (h0 : wE w h B i0 j0 (k + 1) = none) : wQ w B i0 j0 k = 2 * w * lw (!dn (B k)) (wP B i0 j0 (k + 1)).2 + lw (!rt (B k)) (wP B i0 j0 (k + 1)).1 := by
  obtain ⟨_, k2, k3, _⟩ := wK_0 (wE_p h0).2
  unfold wQ
  rw [lw_mv k2, lw_mv k3]
  rfl
theorem tv_same {k k' : Nat} (h0 : wE w h B i0 j0 (k + 1) = none) (h1 : 1 ≤ k') (hk : k' < k) (hP : wP B i0 j0 k' = wP B i0 j0 k) : tv (B (k' - 1)) (B k') = tv (B (k - 1)) (B k) := by
  obtain ⟨a, rfl⟩ : ∃ a, k' = a + 1 := ⟨k' - 1, by omega⟩
  obtain ⟨c, rfl⟩ : ∃ c, k = c + 1 := ⟨k - 1, by omega⟩
  have hc : a + 1 ≠ c := fun q => by
    rw [q] at hP
    exact wP_ne (wE_p h0).1 hP.symm
  rw [Nat.add_sub_cancel, Nat.add_sub_cancel]
  have e1 := wQ_in (wE_lt h0 a (by omega))
  have e3 := wQ_in (wE_p h0).1
  rw [hP] at e1
  have f2 : wQ w B i0 j0 (a + 1) = 2 * w * lw (dn (B (a + 1))) (wP B i0 j0 (c + 1)).2 + lw (rt (B (a + 1))) (wP B i0 j0 (c + 1)).1 := by unfold wQ; rw [hP]
  have f4 : wQ w B i0 j0 (c + 1) = 2 * w * lw (dn (B (c + 1))) (wP B i0 j0 (c + 1)).2 + lw (rt (B (c + 1))) (wP B i0 j0 (c + 1)).1 := rfl
  exact con4 e1 f2 e3 f4 (wQ_ne2 h0 (by omega) (by omega) (by omega)) (wQ_ne2 h0 (by omega) (by omega) (by omega)) (wQ_ne2 h0 (by omega) (by omega) (by omega)) (wQ_ne2 h0 (by omega) (by omega) (by omega)) (wQ_ne2 h0 (by omega) (by omega) (by omega)) (wQ_ne2 h0 (by omega) (by omega) (by omega))
theorem tv_last {n k' : Nat} (h0 : wE w h B i0 j0 n = none) (h1 : 1 ≤ k') (hk : k' < n) (hP : wP B i0 j0 k' = wP B i0 j0 n) (hn : wP B i0 j0 n = (i0, j0)) : tv (B (k' - 1)) (B k') = tv (B (n - 1)) (B 0) := by
  obtain ⟨a, rfl⟩ : ∃ a, k' = a + 1 := ⟨k' - 1, by omega⟩
  obtain ⟨c, rfl⟩ : ∃ c, n = c + 1 := ⟨n - 1, by omega⟩
  have hc : a + 1 ≠ c := fun q => by
    rw [q] at hP
    exact wP_ne h0 hP.symm
  have ha : a ≠ 0 := fun q => by
    subst q
    exact wP_ne (wE_lt h0 0 (by omega)) (hP.trans hn)
  rw [Nat.add_sub_cancel, Nat.add_sub_cancel]
  have e1 := wQ_in (wE_lt h0 a (by omega))
  have e3 := wQ_in h0
  have e4 : wQ w B i0 j0 0 = 2 * w * lw (dn (B 0)) j0 + lw (rt (B 0)) i0 := rfl
  rw [hP, hn] at e1
  rw [hn] at e3
  have f2 : wQ w B i0 j0 (a + 1) = 2 * w * lw (dn (B (a + 1))) (i0, j0).2 + lw (rt (B (a + 1))) (i0, j0).1 := by unfold wQ; rw [hP, hn]
  exact con4 e1 f2 e3 e4 (wQ_ne2 h0 (by omega) (by omega) (by omega)) (wQ_ne2 h0 (by omega) (by omega) (by omega)) (wQ_ne2 h0 (by omega) (by omega) (by omega)) (wQ_ne2 h0 (by omega) (by omega) (by omega)) (wQ_ne2 h0 (by omega) (by omega) (by omega)) (wQ_ne2 h0 (by omega) (by omega) (by omega))
theorem wT_s {k : Nat} (hk : 1 ≤ k) : wT w h B i0 j0 (k + 1) = tell w h (wT w h B i0 j0 k) (wP B i0 j0 k) (tv (B (k - 1)) (B k)) := if_neg (by omega)
theorem wT_1 : wT w h B i0 j0 1 = wT w h B i0 j0 0 := rfl
/-- what stands told comes from a pass -/
theorem wT_of : ∀ {k : Nat}, (∀ i j, (wT w h B i0 j0 k).2.1 i j ≤ 1) ∧ (∀ i j, (wT w h B i0 j0 k).1 i j ≤ 2) ∧ (wT w h B i0 j0 k).2.2 ≤ k ∧ ∀ i j, (wT w h B i0 j0 k).2.1 i j ≠ 0 → ∃ k', 1 ≤ k' ∧ k' < k ∧ wP B i0 j0 k' = (i, j) ∧ (wT w h B i0 j0 k).1 i j = tv (B (k' - 1)) (B k') := by
  intro k
  induction k with
  | zero => exact ⟨fun _ _ => Nat.zero_le _, fun _ _ => Nat.zero_le _, Nat.le_refl _, fun _ _ h => absurd rfl h⟩
  | succ k ih =>
    by_cases hk : k = 0
    · subst hk
      exact ⟨fun _ _ => Nat.zero_le _, fun _ _ => Nat.zero_le _, Nat.zero_le _, fun _ _ h => absurd rfl h⟩
    · rw [wT_s (by omega)]
      obtain ⟨g1, g2, g3, g4⟩ := ih
      unfold tell
      split
      · refine ⟨fun i j => ?_, fun i j => ?_, Nat.succ_le_succ g3, fun i j => ?_⟩
        · show upM _ _ _ i j ≤ 1
          unfold upM; split
          · exact Nat.le_refl _
          · exact g1 i j
        · show upM _ _ _ i j ≤ 2
          unfold upM; split
          · exact tv_le _ _
          · exact g2 i j
        · show upM _ _ _ i j ≠ 0 → _
          intro h9
          by_cases hq : i = (wP B i0 j0 k).1 ∧ j = (wP B i0 j0 k).2
          · refine ⟨k, by omega, by omega, by rw [hq.1, hq.2], ?_⟩
            show upM _ _ _ i j = _
            unfold upM; rw [if_pos hq]
          · unfold upM at h9
            rw [if_neg hq] at h9
            obtain ⟨k', a, b, c, d⟩ := g4 i j h9
            refine ⟨k', a, by omega, c, ?_⟩
            show upM _ _ _ i j = _
            unfold upM; rw [if_neg hq]; exact d
      · refine ⟨g1, g2, Nat.le_succ_of_le g3, fun i j h9 => ?_⟩
        obtain ⟨k', a, b, c, d⟩ := g4 i j h9
        exact ⟨k', a, by omega, c, d⟩
theorem wT_con {k : Nat} (h0 : wE w h B i0 j0 (k + 1) = none) (h9 : (wT w h B i0 j0 k).2.1 (wP B i0 j0 k).1 (wP B i0 j0 k).2 ≠ 0) : (wT w h B i0 j0 k).1 (wP B i0 j0 k).1 (wP B i0 j0 k).2 = tv (B (k - 1)) (B k) := by
  obtain ⟨k', a, b, c, d⟩ := wT_of.2.2.2 _ _ h9
  rw [d]
  exact tv_same h0 a b c
theorem wT_fin {n : Nat} (h0 : wE w h B i0 j0 n = none) (hn : wP B i0 j0 n = (i0, j0)) (h9 : (wT w h B i0 j0 n).2.1 (wP B i0 j0 n).1 (wP B i0 j0 n).2 ≠ 0) : (wT w h B i0 j0 n).1 (wP B i0 j0 n).1 (wP B i0 j0 n).2 = tv (B (n - 1)) (B 0) := by
  obtain ⟨k', a, b, c, d⟩ := wT_of.2.2.2 _ _ h9
  rw [d]
  exact tv_last h0 a b c hn
theorem wR_e {n : Nat} {e : Nat × Nat} (h0 : wE w h B i0 j0 n = some e) : wR w h B i0 j0 n = .inl e := by unfold wR; rw [h0]
theorem wR_4 {n : Nat} (h0 : wE w h B i0 j0 n = none) (h1 : n = 0 ∨ wP B i0 j0 n ≠ (i0, j0)) : wR w h B i0 j0 n = .inl (4, n) := by unfold wR; rw [h0]; exact if_pos h1
theorem wR_r {n : Nat} (h0 : wE w h B i0 j0 n = none) (h1 : ¬ (n = 0 ∨ wP B i0 j0 n ≠ (i0, j0))) : wR w h B i0 j0 n = .inr (tell w h (wT w h B i0 j0 n) (wP B i0 j0 n) (tv (B (n - 1)) (B 0))) := by unfold wR; rw [h0]; exact if_neg h1
theorem wE_err {e : Nat × Nat} : ∀ {n : Nat}, wE w h B i0 j0 n = some e → 1 ≤ e.1 ∧ e.1 ≤ 3 := by
  intro n
  induction n with
  | zero => intro h0; exact absurd h0 (by simp [wE])
  | succ n ih =>
    intro h0
    cases h1 : wE w h B i0 j0 n with
    | some e' =>
      have h2 := wE_stay h1 1
      rw [h2] at h0
      exact ih (h1.trans h0)
    | none =>
      rw [wE_s h1] at h0
      split at h0
      · exact absurd h0 (by simp)
      · rename_i h2
        rw [← Option.some.inj h0]
        show 1 ≤ wK w h B i0 j0 n ∧ wK w h B i0 j0 n ≤ 3
        refine ⟨by omega, ?_⟩
        unfold wK; (repeat' split) <;> omega
theorem wR_err {n : Nat} {e : Nat × Nat} (h0 : wR w h B i0 j0 n = .inl e) : 1 ≤ e.1 ∧ e.1 ≤ 4 := by
  cases h1 : wE w h B i0 j0 n with
  | some e' =>
    rw [wR_e h1] at h0
    have := wE_err h1
    rw [Sum.inl.inj h0] at this
    omega
  | none =>
    by_cases h2 : n = 0 ∨ wP B i0 j0 n ≠ (i0, j0)
    · rw [wR_4 h1 h2] at h0
      rw [← Sum.inl.inj h0]
      exact ⟨Nat.le_of_ble_eq_true rfl, Nat.le_refl 4⟩
    · rw [wR_r h1 h2] at h0; exact absurd h0 (by simp)
theorem tell_ok {σ : wSt} {p : Nat × Nat} {v : Nat} (h2 : ∀ i j, σ.1 i j ≤ 2) (hv : v ≤ 2) (i j : Nat) : (tell w h σ p v).1 i j ≤ 2 := by
  unfold tell
  split
  · show upM _ _ _ i j ≤ 2
    unfold upM; split
    · exact hv
    · exact h2 i j
  · exact h2 i j
theorem wR_ok {n : Nat} {σ : wSt} (h0 : wR w h B i0 j0 n = .inr σ) : okM w h σ.1 := by
  cases h1 : wE w h B i0 j0 n with
  | some e' => rw [wR_e h1] at h0; exact absurd h0 (by simp)
  | none =>
    by_cases h2 : n = 0 ∨ wP B i0 j0 n ≠ (i0, j0)
    · rw [wR_4 h1 h2] at h0; exact absurd h0 (by simp)
    · rw [wR_r h1 h2] at h0
      rw [← Sum.inr.inj h0]
      exact fun i j _ => tell_ok wT_of.2.1 (tv_le _ _) i j
theorem wD_l {n : Nat} {e : Nat × Nat} (h0 : wR w h B i0 j0 n = .inl e) : wD w h B i0 j0 n = .inl e := by unfold wD; rw [h0]
theorem wD_r {n : Nat} {σ : wSt} (h0 : wR w h B i0 j0 n = .inr σ) : wD w h B i0 j0 n = .inr (w, h, σ.1) := by unfold wD; rw [h0]
theorem vBk_l {n : Nat} {e : Nat × Nat} (h0 : wR w h B i0 j0 n = .inl e) : vBk w h B i0 j0 n = -1 := by unfold vBk; rw [h0]
theorem vBk_r {n : Nat} {σ : wSt} (h0 : wR w h B i0 j0 n = .inr σ) : vBk w h B i0 j0 n = nI σ.2.2 := by unfold vBk; rw [h0]
end WC
theorem sg_inj {a b : Bool} : sg a = sg b ↔ a = b := by cases a <;> cases b <;> decide
theorem rt_sg {c : Nat} (hc : c < 2147483648) : (if nI c = nI 97 ∨ nI c = nI 100 then nI 1 else -1) = sg (rt c) := by
  have e1 : nI c = nI 97 ↔ c = 97 := nI_eq hc (by decide)
  have e2 : nI c = nI 100 ↔ c = 100 := nI_eq hc (by decide)
  unfold sg rt
  by_cases q : c = 97 ∨ c = 100
  · rw [if_pos (q.imp e1.mpr e2.mpr), if_pos (decide_eq_true q)]
  · rw [if_neg (fun q9 => q (q9.imp e1.mp e2.mp)), if_neg (by rw [decide_eq_true_eq]; exact q)]
theorem dn_sg {c : Nat} (hc : c < 2147483648) : (if nI c = nI 97 ∨ nI c = nI 98 then nI 1 else -1) = sg (dn c) := by
  have e1 : nI c = nI 97 ↔ c = 97 := nI_eq hc (by decide)
  have e2 : nI c = nI 98 ↔ c = 98 := nI_eq hc (by decide)
  unfold sg dn
  by_cases q : c = 97 ∨ c = 98
  · rw [if_pos (q.imp e1.mpr e2.mpr), if_pos (decide_eq_true q)]
  · rw [if_neg (fun q9 => q (q9.imp e1.mp e2.mp)), if_neg (by rw [decide_eq_true_eq]; exact q)]
theorem sg_int {b : Bool} {i : Nat} (hi : i ≤ 16) : (nI i + sg b).toInt = (i : Int) + (if b = true then 1 else -1) := by
  cases b
  · by_cases h : i = 0
    · subst h; decide
    · rw [sg_add (fun _ => by omega), z_nI (by simp; omega)]; simp; omega
  · rw [sg_add (fun q => absurd q (by decide)), z_nI (by simp; omega)]; simp
theorem sg_mv {b : Bool} {i m : Nat} (h : inS b i m = true) : nI i + sg b = nI (mv b i) := sg_add (fun q => (inS_i h).2 q)
theorem inS_int {b : Bool} {i m : Nat} (hi : i ≤ 16) (hm : i ≤ m) : inS b i m = decide (0 ≤ (nI i + sg b).toInt ∧ (nI i + sg b).toInt ≤ (m : Int)) := by
  rw [sg_int hi]
  unfold inS
  cases b
  · simp only [if_neg (show ¬ (false = true) by decide)]
    exact decide_eq_decide.mpr (by omega)
  · simp only [if_pos]
    exact decide_eq_decide.mpr (by omega)
theorem m_dxOf (S : am_S) (I : am_I) {c : Nat} (hc : c < 2147483648) : am_Mt 0 Y_X8_dxOf (0, 0) [.int (nI c)] S I (am_q (some (.int (sg (rt c)))) S I) := by
  rw [← rt_sg hc]; exact c_X8_dxOf S I _
theorem m_dyOf (S : am_S) (I : am_I) {c : Nat} (hc : c < 2147483648) : am_Mt 0 Y_X8_dyOf (0, 0) [.int (nI c)] S I (am_q (some (.int (sg (dn c)))) S I) := by
  rw [← dn_sg hc]; exact c_X8_dyOf S I _
theorem m_rightOf (S : am_S) (I : am_I) {c : Nat} (hc : c < 2147483648) : am_Mt 0 Y_X6_rightOf (0, 0) [.int (nI c)] S I (am_q (some (.int (sg (rt c)))) S I) := by
  rw [← rt_sg hc]; exact c_X6_rightOf S I _
theorem m_downOf (S : am_S) (I : am_I) {c : Nat} (hc : c < 2147483648) : am_Mt 0 Y_X6_downOf (0, 0) [.int (nI c)] S I (am_q (some (.int (sg (dn c)))) S I) := by
  rw [← dn_sg hc]; exact c_X6_downOf S I _
theorem m_isInS (S : am_S) (I : am_I) {b : Bool} {i m : Nat} (hi : i ≤ m) (hm : m ≤ 16) : am_Mt 0 Y_X8_isIn (0, 0) [.int (nI i + sg b), .int (nI 0), .int (nI m)] S I (am_q (some (.int (am_b (inS b i m)))) S I) := by
  rw [inS_int (by omega) hi]
  have q := c_X8_isIn S I (nI i + sg b) (nI 0) (nI m)
  rwa [z_nI (by decide), z_nI (by omega)] at q
theorem pPoint_mv {w h i j : Nat} {a b : Bool} (w8 : w ≤ 8) (h8 : h ≤ 8) (hi : i ≤ 2 * w) (hj : j ≤ 2 * h) (hp : (i + j) % 2 = 1) : pPoint w h (nI i + sg a) (nI j + sg b) = (inS a i (2 * w) && inS b j (2 * h)) := by
  rw [inS_int (by omega) hi, inS_int (by omega) hj]
  unfold pPoint
  rw [sg_int (by omega), sg_int (by omega), ← Bool.decide_and]
  refine decide_eq_decide.mpr ?_
  cases a <;> cases b <;> simp <;> omega
theorem min_lw {b : Bool} {i m : Nat} (h : inS b i m = true) (hi : i ≤ 16) : (if nI i + sg b < nI i then nI i + sg b else nI i) = nI (lw b i) := by
  rw [sg_mv h]
  have h1 := inS_i h
  cases b
  · have := h1.2 rfl
    rw [if_pos (by rw [nI_ltI (by unfold mv; simp; omega) (by omega)]; unfold mv; simp; omega)]; rfl
  · rw [if_neg (by rw [nI_ltI (by unfold mv; simp; omega) (by omega)]; unfold mv; simp)]; rfl
